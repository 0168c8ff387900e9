theorem mX9_messageAt_1 : (.fieldLink RX9 18 "OneBeatModel" "data" "[I" : Cond) ∈ wsX9_messageAt := List.mem_of_getElem? (i := 1) (by decide +kernel)
theorem iX9_messageAt_9 : ∀ w ∈ wsX90, w ∈ wsX9_messageAt := fun w h => List.mem_of_mem_drop (List.mem_of_mem_take ((show wsX90 = (wsX9_messageAt.drop 2).take 18 by decide +kernel) ▸ h))
set_option maxHeartbeats 4000000 in
set_option maxRecDepth 100000 in
theorem c_X9_messageAt {l : Launch} {D : va_G} {cs : Nat → ClassId} {B0 T : Nat} {κ : KM} {H0 : Heap} (hT : WT B0 D cs T κ H0) {w : Nat} (hw : T2 κ w 10 12) {f : Nat → Int32} {nm k : Nat} (hd : va_at D vwCl ((κ w).2.2.2, .inl (cs 0, 45783, .inl f)) H0) (e3 : f 3 = nI nm) (hnm : nm ≤ 7400) (hk : k < nm) : KC l yX9_messageAt wsX9_messageAt 0 0 0 0 D cs B0 H0 [.ref w, .int (nI k)] (Qi (fun r H => H = H0 ∧ ∃ n, n ≤ 7399 ∧ r = nI (1383 + 6 * n))) := by
  refine KC.of cX9_messageAt 7 (some .int) (by decide) rfl (Nat.le_of_ble_eq_true rfl) ?_
  intro p e s m below meth c ls hx hb hr hml hown hts hlocks hin hN hE hH0 hl
  have hown : s.vm.findClass RX9 = some m.cls := hown
  have hl : lv_has ls 7 [(0, .ref w), (1, .int (nI k))] := hl
  have hL : OkL B0 [] := OkL.nil
  obtain ⟨hb1237, e1237, hat1237, hk1237⟩ := hT.o10 hw.1
  obtain ⟨f1237_0, f1237_1, f1237_3, f1237_4, f1237_5, f1237_6, f1237_7, f1237_9, f1237_10, f1237_11, f1237_12, f1237_13, f1237_14, f1237_15, f1237_16, f1237_17, rfl, c1237_2, c1237_3, c1237_4, c1237_12, t1237_1, t1237_8, t1237_9, c1237_sd, t1237_10, t1237_11, t1237_17⟩ := hk1237
  have hP : va_P D vwCl [(w, .inr (9, [.int f1237_0, .ref f1237_1, .int (nI ((κ w).2.2.1)), .int (nI f1237_3), .int (nI f1237_4), .int f1237_5, .int f1237_6, .int f1237_7, .ref (κ w).2.2.2, .ref f1237_9, .ref f1237_10, .ref f1237_11, .int (nI f1237_12), .int f1237_13, .int f1237_14, .int f1237_15, .int f1237_16, .ref f1237_17]))] _ := va_P.cons hat1237 va_P.nil
  have hbD : B0 ≤ (κ w).2.2.2 := (hT.o24 t1237_8.1).1
  have hP : va_P D vwCl [((κ w).2.2.2, .inl (cs 0, 45783, .inl f)), (w, .inr (9, [.int f1237_0, .ref f1237_1, .int (nI ((κ w).2.2.1)), .int (nI f1237_3), .int (nI f1237_4), .int f1237_5, .int f1237_6, .int f1237_7, .ref (κ w).2.2.2, .ref f1237_9, .ref f1237_10, .ref f1237_11, .int (nI f1237_12), .int f1237_13, .int f1237_14, .int f1237_15, .int f1237_16, .ref f1237_17]))] _ := va_P.cons hd hP
  refine lv_iload_n hx hb dX9_messageAt_0 rfl (lv_at hl 1 rfl) ?_
  refine lv_istore_n (lv' := [(2, .int (nI k)), (0, .ref w), (1, .int (nI k))]) hx hb dX9_messageAt_1 rfl hl (by decide) rfl (fun ls hl => ?_)
  refine lv_iconst (v := (-1)) hx hb dX9_messageAt_2 (by decide) ?_
  refine lv_istore_n (lv' := [(3, .int (-1)), (2, .int (nI k)), (0, .ref w), (1, .int (nI k))]) hx hb dX9_messageAt_3 rfl hl (by decide) rfl (fun ls hl => ?_)
  refine lv_aload_n hx hb dX9_messageAt_4 rfl (lv_at hl 2 rfl) ?_
  refine va_get (D := D) (ci := 9) (v := .ref (κ w).2.2.2) (C := RX9) (T := TX9) (N := 18) hx hb hts iX9_messageAt_9 hown hN.1 hP 1 rfl rfl 8 (by decide) (hts _ mX9_messageAt_1) (fun _ h9 => h9) rfl dX9_messageAt_5 ?_
  refine lv_iconst (v := 1) hx hb dX9_messageAt_8 (by decide) ?_
  refine ld_i (v := (f 1)) hx hb hN hP 0 rfl (vp_in_nI (n := 1) (N := 45783) (by omega) (by omega)) (by rw [(show (1 : Int32).toNatClampNeg = 1 from nI_clamp (n := 1) (by omega))]) dX9_messageAt_9 ?_
  refine lv_iconst (v := 1) hx hb dX9_messageAt_10 (by decide) ?_
  refine lv_iadd hx hb dX9_messageAt_11 ?_
  refine lv_istore (lv' := [(4, .int ((f 1) + 1)), (3, .int (-1)), (2, .int (nI k)), (0, .ref w), (1, .int (nI k))]) hx hb dX9_messageAt_12 hl (by decide) rfl (fun ls hl => ?_)
  have hl : lv_has ls 7 [(4, .int (f 1 + 1 + nI 0)), (3, .int (-1)), (2, .int (nI (k - hc f 0 nm))), (0, .ref w), (1, .int (nI k))] := by rw [nI_0, Int32.add_zero, hc_0, Nat.sub_zero]; exact hl
  refine lp_r (B0 := B0) (α := Nat) (nL := 7) (fun a9 => 4294967296 - a9) (fun a9 => (a9 ≤ 4294967296) ∧ (hc f a9 nm ≤ k)) (fun a9 => [(2, .int (nI (k - hc f a9 nm))), (3, .int (-1)), (4, .int (f 1 + 1 + nI a9)), (0, .ref w)]) ?_ 0 _ _ ⟨(by show (0) ≤ 4294967296; omega), (by rw [hc_0]; omega)⟩ hL (lv_sub hl [2, 1, 0, 3] rfl)
  rintro j locs ls ih1238 ⟨hj, hc8⟩ hL hl
  have hl : lv_has ls 7 [(2, .int (nI (k - hc f j nm))), (3, .int (-1)), (4, .int (f 1 + 1 + nI j)), (0, .ref w)] := hl
  have hj : j ≤ 4294967296 := hj
  have hc8 : hc f j nm ≤ k := hc8
  have hj9 : j < 4294967296 := by
    rcases Nat.lt_or_ge j 4294967296 with h9 | h9
    · exact h9
    · have := hc_all (f := f) (n := nm) h9; omega
  refine lv_iload_n hx hb dX9_messageAt_14 rfl (lv_at hl 1 rfl) ?_
  refine lv_iconst (v := (-1)) hx hb dX9_messageAt_15 (by decide) ?_
  refine lv_icmp_ne (tgt := 88) hx hb dX9_messageAt_16 (by decide) (fun c9 => absurd (by decide) c9) (fun _ => ?_)
  refine lv_iconst (v := 0) hx hb dX9_messageAt_19 (by decide) ?_
  refine lv_istore (lv' := [(5, .int 0), (2, .int (nI (k - hc f j nm))), (3, .int (-1)), (4, .int (f 1 + 1 + nI j)), (0, .ref w)]) hx hb dX9_messageAt_20 hl (by decide) rfl (fun ls hl => ?_)
  have hl : lv_has ls 7 [(5, .int 0), (2, .int (nI (k - hc f j nm - hd9 f j 0))), (3, .int (-1)), (4, .int (f 1 + 1 + nI j)), (0, .ref w)] := hl
  refine lp_r (B0 := B0) (α := Nat) (nL := 7) (fun a9 => nm - a9) (fun a9 => (a9 ≤ nm) ∧ (hc f j nm + hd9 f j a9 ≤ k)) (fun a9 => [(5, .int (nI a9)), (2, .int (nI (k - hc f j nm - hd9 f j a9))), (3, .int (-1)), (4, .int (f 1 + 1 + nI j)), (0, .ref w)]) ?_ 0 _ _ ⟨(by show (0) ≤ nm; omega), (by show hc f j nm + 0 ≤ k; omega)⟩ hL (lv_sub hl [0, 1, 2, 3, 4] rfl)
  rintro i locs ls ih1239 ⟨hi, hd8⟩ hL hl
  have hl : lv_has ls 7 [(5, .int (nI i)), (2, .int (nI (k - hc f j nm - hd9 f j i))), (3, .int (-1)), (4, .int (f 1 + 1 + nI j)), (0, .ref w)] := hl
  have hi : i ≤ nm := hi
  have hd8 : hc f j nm + hd9 f j i ≤ k := hd8
  refine lv_iload hx hb dX9_messageAt_22 (lv_at hl 0 rfl) ?_
  refine lv_aload_n hx hb dX9_messageAt_24 rfl (lv_at hl 4 rfl) ?_
  refine va_get (D := D) (ci := 9) (v := .ref (κ w).2.2.2) (C := RX9) (T := TX9) (N := 18) hx hb hts iX9_messageAt_9 hown hN.1 hP 1 rfl rfl 8 (by decide) (hts _ mX9_messageAt_1) (fun _ h9 => h9) rfl dX9_messageAt_25 ?_
  refine lv_iconst (v := 3) hx hb dX9_messageAt_28 (by decide) ?_
  refine ld_i (v := (f 3)) hx hb hN hP 0 rfl (vp_in_nI (n := 3) (N := 45783) (by omega) (by omega)) (by rw [(show (3 : Int32).toNatClampNeg = 3 from nI_clamp (n := 3) (by omega))]) dX9_messageAt_29 ?_
  refine tp_i (nI nm) e3 ?_
  refine lv_icmp_ge (tgt := 82) hx hb dX9_messageAt_30 (by decide) (fun c1240 => ?_) (fun c1240 => ?_)
  · have c1240 : nm ≤ i := (nI_leI (a := nm) (b := i) (by omega) (by omega)).mp c1240
    refine lv_iinc (v := ((f 1 + 1 + nI j) + 1)) (lv' := [(4, .int ((f 1 + 1 + nI j) + 1)), (5, .int (nI i)), (2, .int (nI (k - hc f j nm - hd9 f j i))), (3, .int (-1)), (0, .ref w)]) hx hb dX9_messageAt_82 hl (k := 3) rfl (rfl) (by decide) rfl (fun ls hl => ?_)
    refine lv_goto (tgt := 14) hx hb dX9_messageAt_85 (by decide) ?_
    have g8 : hc f (j + 1) nm = hc f j nm + hd9 f j nm := hc_s
    have hi9 : i = nm := by omega
    rw [hi9] at hd8
    have hl : lv_has ls 7 [(4, .int (f 1 + 1 + nI (j + 1))), (5, .int (nI i)), (2, .int (nI (k - hc f (j + 1) nm))), (3, .int (-1)), (0, .ref w)] := by rw [← nI_1, ← Int32.add_assoc, show k - hc f (j + 1) nm = (k - hc f j nm - hd9 f j i) by rw [hi9]; omega]; exact hl
    exact ih1238 (j + 1) _ _ (by show 4294967296 - ((j + 1)) < 4294967296 - j; omega) ⟨(by show ((j + 1)) ≤ 4294967296; omega), (by show hc f ((j + 1)) nm ≤ k; omega)⟩ hL (lv_sub hl [2, 3, 0, 4] rfl)
  · have c1240 : ¬ nm ≤ i := fun h9 => c1240 ((nI_leI (a := nm) (b := i) (by omega) (by omega)).mpr h9)
    refine lv_iload_n hx hb dX9_messageAt_33 rfl (lv_at hl 2 rfl) ?_
    refine lv_iconst (v := (-1)) hx hb dX9_messageAt_34 (by decide) ?_
    refine lv_icmp_ne (tgt := 82) hx hb dX9_messageAt_35 (by decide) (fun c9 => absurd (by decide) c9) (fun _ => ?_)
    refine lv_sipush (v := 1383) hx hb dX9_messageAt_38 (by decide) ?_
    refine lv_bipush (v := 6) hx hb dX9_messageAt_41 (by decide) ?_
    refine lv_iload hx hb dX9_messageAt_43 (lv_at hl 0 rfl) ?_
    refine lv_imul hx hb dX9_messageAt_45 ?_
    refine tp_i (nI (6 * i)) (nI_mul 6 i) ?_
    refine lv_iadd hx hb dX9_messageAt_46 ?_
    refine tp_i (nI (1383 + (6 * i))) (nI_add 1383 (6 * i)) ?_
    refine lv_istore (lv' := [(6, .int (nI (1383 + (6 * i)))), (5, .int (nI i)), (2, .int (nI (k - hc f j nm - hd9 f j i))), (3, .int (-1)), (4, .int (f 1 + 1 + nI j)), (0, .ref w)]) hx hb dX9_messageAt_47 hl (by decide) rfl (fun ls hl => ?_)
    refine lv_aload_n hx hb dX9_messageAt_49 rfl (lv_at hl 5 rfl) ?_
    refine va_get (D := D) (ci := 9) (v := .ref (κ w).2.2.2) (C := RX9) (T := TX9) (N := 18) hx hb hts iX9_messageAt_9 hown hN.1 hP 1 rfl rfl 8 (by decide) (hts _ mX9_messageAt_1) (fun _ h9 => h9) rfl dX9_messageAt_50 ?_
    refine lv_iload hx hb dX9_messageAt_53 (lv_at hl 0 rfl) ?_
    refine lv_iconst (v := 1) hx hb dX9_messageAt_55 (by decide) ?_
    refine lv_iadd hx hb dX9_messageAt_56 ?_
    refine tp_i (nI ((1383 + (6 * i)) + 1)) (nI_add (1383 + (6 * i)) 1) ?_
    refine ld_i (v := (f ((1383 + (6 * i)) + 1))) hx hb hN hP 0 rfl (vp_in_nI (n := ((1383 + (6 * i)) + 1)) (N := 45783) (by omega) (by omega)) (by rw [(show ((nI ((1383 + (6 * i)) + 1)) : Int32).toNatClampNeg = ((1383 + (6 * i)) + 1) from nI_clamp (n := ((1383 + (6 * i)) + 1)) (by omega))]) dX9_messageAt_57 ?_
    refine lv_iload hx hb dX9_messageAt_58 (lv_at hl 4 rfl) ?_
    refine lv_icmp_eq (tgt := 66) hx hb dX9_messageAt_60 (by decide) (fun c1241 => ?_) (fun c1241 => ?_)
    · have g9 : hd9 f j (i + 1) = hd9 f j i + 1 := hd_y (hx_eq (i := i) (by rw [show 1384 + 6 * i = 1383 + 6 * i + 1 by omega]; exact c1241) hj9)
      refine lv_iload_n hx hb dX9_messageAt_66 rfl (lv_at hl 2 rfl) ?_
      refine lv_if_ne (tgt := 73) hx hb dX9_messageAt_67 (by decide) (fun c1242 => ?_) (fun c1242 => ?_)
      · have c1242 : ¬ (k - hc f j nm - hd9 f j i) = 0 := fun h9 => c1242 ((nI_eq (a := (k - hc f j nm - hd9 f j i)) (b := 0) (by omega) (by omega)).mpr h9)
        refine lv_iinc (v := (nI ((k - hc f j nm - hd9 f j i) - 1))) (lv' := [(2, .int (nI ((k - hc f j nm - hd9 f j i) - 1))), (6, .int (nI (1383 + (6 * i)))), (5, .int (nI i)), (3, .int (-1)), (4, .int (f 1 + 1 + nI j)), (0, .ref w)]) hx hb dX9_messageAt_73 hl (k := 2) rfl (nI_dec1 (by omega)) (by decide) rfl (fun ls hl => ?_)
        refine lv_iinc (v := (nI (i + 1))) (lv' := [(5, .int (nI (i + 1))), (2, .int (nI ((k - hc f j nm - hd9 f j i) - 1))), (6, .int (nI (1383 + (6 * i)))), (3, .int (-1)), (4, .int (f 1 + 1 + nI j)), (0, .ref w)]) hx hb dX9_messageAt_76 hl (k := 2) rfl (nI_add _ 1) (by decide) rfl (fun ls hl => ?_)
        refine lv_goto (tgt := 22) hx hb dX9_messageAt_79 (by decide) ?_
        have hl : lv_has ls 7 [(5, .int (nI (i + 1))), (2, .int (nI (k - hc f j nm - hd9 f j (i + 1)))), (6, .int (nI (1383 + (6 * i)))), (3, .int (-1)), (4, .int (f 1 + 1 + nI j)), (0, .ref w)] := by rw [show k - hc f j nm - hd9 f j (i + 1) = ((k - hc f j nm - hd9 f j i) - 1) by omega]; exact hl
        exact ih1239 (i + 1) _ _ (by show nm - ((i + 1)) < nm - i; omega) ⟨(by show ((i + 1)) ≤ nm; omega), (by show hc f j nm + hd9 f j ((i + 1)) ≤ k; omega)⟩ hL (lv_sub hl [0, 1, 3, 4, 5] rfl)
      · have c1242 : (k - hc f j nm - hd9 f j i) = 0 := (nI_eq (a := (k - hc f j nm - hd9 f j i)) (b := 0) (by omega) (by omega)).mp c1242
        refine lv_iload hx hb dX9_messageAt_70 (lv_at hl 0 rfl) ?_
        refine lv_istore_n (lv' := [(3, .int (nI (1383 + (6 * i)))), (6, .int (nI (1383 + (6 * i)))), (5, .int (nI i)), (2, .int (nI (k - hc f j nm - hd9 f j i))), (4, .int (f 1 + 1 + nI j)), (0, .ref w)]) hx hb dX9_messageAt_72 rfl hl (by decide) rfl (fun ls hl => ?_)
        refine lv_iinc (v := ((nI (k - hc f j nm - hd9 f j i)) + (-1))) (lv' := [(2, .int ((nI (k - hc f j nm - hd9 f j i)) + (-1))), (3, .int (nI (1383 + (6 * i)))), (6, .int (nI (1383 + (6 * i)))), (5, .int (nI i)), (4, .int (f 1 + 1 + nI j)), (0, .ref w)]) hx hb dX9_messageAt_73 hl (k := 3) rfl (rfl) (by decide) rfl (fun ls hl => ?_)
        refine lv_iinc (v := (nI (i + 1))) (lv' := [(5, .int (nI (i + 1))), (2, .int ((nI (k - hc f j nm - hd9 f j i)) + (-1))), (3, .int (nI (1383 + (6 * i)))), (6, .int (nI (1383 + (6 * i)))), (4, .int (f 1 + 1 + nI j)), (0, .ref w)]) hx hb dX9_messageAt_76 hl (k := 3) rfl (nI_add _ 1) (by decide) rfl (fun ls hl => ?_)
        refine lv_goto (tgt := 22) hx hb dX9_messageAt_79 (by decide) ?_
        refine lv_iload hx hb dX9_messageAt_22 (lv_at hl 0 rfl) ?_
        refine lv_aload_n hx hb dX9_messageAt_24 rfl (lv_at hl 5 rfl) ?_
        refine va_get (D := D) (ci := 9) (v := .ref (κ w).2.2.2) (C := RX9) (T := TX9) (N := 18) hx hb hts iX9_messageAt_9 hown hN.1 hP 1 rfl rfl 8 (by decide) (hts _ mX9_messageAt_1) (fun _ h9 => h9) rfl dX9_messageAt_25 ?_
        refine lv_iconst (v := 3) hx hb dX9_messageAt_28 (by decide) ?_
        refine ld_i (v := (f 3)) hx hb hN hP 0 rfl (vp_in_nI (n := 3) (N := 45783) (by omega) (by omega)) (by rw [(show (3 : Int32).toNatClampNeg = 3 from nI_clamp (n := 3) (by omega))]) dX9_messageAt_29 ?_
        refine tp_i (nI nm) e3 ?_
        refine lv_icmp_ge (tgt := 82) hx hb dX9_messageAt_30 (by decide) (fun c1243 => ?_) (fun c1243 => ?_)
        · have c1243 : nm ≤ (i + 1) := (nI_leI (a := nm) (b := (i + 1)) (by omega) (by omega)).mp c1243
          refine lv_iinc (v := ((f 1 + 1 + nI j) + 1)) (lv' := [(4, .int ((f 1 + 1 + nI j) + 1)), (5, .int (nI (i + 1))), (2, .int ((nI (k - hc f j nm - hd9 f j i)) + (-1))), (3, .int (nI (1383 + (6 * i)))), (6, .int (nI (1383 + (6 * i)))), (0, .ref w)]) hx hb dX9_messageAt_82 hl (k := 4) rfl (rfl) (by decide) rfl (fun ls hl => ?_)
          refine lv_goto (tgt := 14) hx hb dX9_messageAt_85 (by decide) ?_
          refine lv_iload_n hx hb dX9_messageAt_14 rfl (lv_at hl 3 rfl) ?_
          refine lv_iconst (v := (-1)) hx hb dX9_messageAt_15 (by decide) ?_
          refine lv_icmp_ne (tgt := 88) hx hb dX9_messageAt_16 (by decide) (fun c1244 => ?_) (fun c1244 => ?_)
          · refine lv_iload_n hx hb dX9_messageAt_88 rfl (lv_at hl 3 rfl) ?_
            exact en_i hx hb hr hlocks hL rfl (Nat.zero_le _) (Nat.zero_le _) dX9_messageAt_89 (⟨rfl, i, by omega, rfl⟩)
          · exact absurd c1244 (nI_nm1 (by omega))
        · have c1243 : ¬ nm ≤ (i + 1) := fun h9 => c1243 ((nI_leI (a := nm) (b := (i + 1)) (by omega) (by omega)).mpr h9)
          refine lv_iload_n hx hb dX9_messageAt_33 rfl (lv_at hl 2 rfl) ?_
          refine lv_iconst (v := (-1)) hx hb dX9_messageAt_34 (by decide) ?_
          refine lv_icmp_ne (tgt := 82) hx hb dX9_messageAt_35 (by decide) (fun c1245 => ?_) (fun c1245 => ?_)
          · refine lv_iinc (v := ((f 1 + 1 + nI j) + 1)) (lv' := [(4, .int ((f 1 + 1 + nI j) + 1)), (5, .int (nI (i + 1))), (2, .int ((nI (k - hc f j nm - hd9 f j i)) + (-1))), (3, .int (nI (1383 + (6 * i)))), (6, .int (nI (1383 + (6 * i)))), (0, .ref w)]) hx hb dX9_messageAt_82 hl (k := 4) rfl (rfl) (by decide) rfl (fun ls hl => ?_)
            refine lv_goto (tgt := 14) hx hb dX9_messageAt_85 (by decide) ?_
            refine lv_iload_n hx hb dX9_messageAt_14 rfl (lv_at hl 3 rfl) ?_
            refine lv_iconst (v := (-1)) hx hb dX9_messageAt_15 (by decide) ?_
            refine lv_icmp_ne (tgt := 88) hx hb dX9_messageAt_16 (by decide) (fun c1246 => ?_) (fun c1246 => ?_)
            · refine lv_iload_n hx hb dX9_messageAt_88 rfl (lv_at hl 3 rfl) ?_
              exact en_i hx hb hr hlocks hL rfl (Nat.zero_le _) (Nat.zero_le _) dX9_messageAt_89 (⟨rfl, i, by omega, rfl⟩)
            · exact absurd c1246 (nI_nm1 (by omega))
          · exact absurd c1245 (nI_nm1 (by omega))
    · have g9 : hd9 f j (i + 1) = hd9 f j i := hd_n (hx_ne (i := i) (fun h8 => c1241 (by rw [show 1383 + 6 * i + 1 = 1384 + 6 * i by omega]; exact h8)))
      refine lv_goto (tgt := 76) hx hb dX9_messageAt_63 (by decide) ?_
      refine lv_iinc (v := (nI (i + 1))) (lv' := [(5, .int (nI (i + 1))), (6, .int (nI (1383 + (6 * i)))), (2, .int (nI (k - hc f j nm - hd9 f j i))), (3, .int (-1)), (4, .int (f 1 + 1 + nI j)), (0, .ref w)]) hx hb dX9_messageAt_76 hl (k := 1) rfl (nI_add _ 1) (by decide) rfl (fun ls hl => ?_)
      refine lv_goto (tgt := 22) hx hb dX9_messageAt_79 (by decide) ?_
      have hl : lv_has ls 7 [(5, .int (nI (i + 1))), (6, .int (nI (1383 + (6 * i)))), (2, .int (nI (k - hc f j nm - hd9 f j (i + 1)))), (3, .int (-1)), (4, .int (f 1 + 1 + nI j)), (0, .ref w)] := by rw [show k - hc f j nm - hd9 f j (i + 1) = (k - hc f j nm - hd9 f j i) by omega]; exact hl
      exact ih1239 (i + 1) _ _ (by show nm - ((i + 1)) < nm - i; omega) ⟨(by show ((i + 1)) ≤ nm; omega), (by show hc f j nm + hd9 f j ((i + 1)) ≤ k; omega)⟩ hL (lv_sub hl [0, 2, 3, 4, 5] rfl)
theorem mX9_message_1 : (.fieldLink RX9 40 "OneBeatModel" "thrown" "I" : Cond) ∈ wsX9_message := List.mem_of_getElem? (i := 1) (by decide +kernel)
theorem iX9_message_9 : ∀ w ∈ wsX90, w ∈ wsX9_message := fun w h => List.mem_of_mem_drop (List.mem_of_mem_take ((show wsX90 = (wsX9_message.drop 19).take 18 by decide +kernel) ▸ h))
theorem mX9_message_2 : (.fieldLink RX9 18 "OneBeatModel" "data" "[I" : Cond) ∈ wsX9_message := List.mem_of_getElem? (i := 2) (by decide +kernel)
theorem hdX9_messageAt_v : yX9_messageAt.cls = RX9 ∧ yX9_messageAt.cls ≠ "java/lang/invoke/MethodHandle" ∧ yX9_messageAt.cls ≠ "java/lang/invoke/VarHandle" ∧ (parseMethodDescriptor yX9_messageAt.desc).map (fun d => d.parameters.length) = some 1 := by decide +kernel
theorem hdX9_toldMessage_v : yX9_toldMessage.cls = RX9 ∧ yX9_toldMessage.cls ≠ "java/lang/invoke/MethodHandle" ∧ yX9_toldMessage.cls ≠ "java/lang/invoke/VarHandle" ∧ (parseMethodDescriptor yX9_toldMessage.desc).map (fun d => d.parameters.length) = some 2 := by decide +kernel
set_option maxHeartbeats 4000000 in
set_option maxRecDepth 100000 in
theorem c_X9_message {l : Launch} {D : va_G} {cs : Nat → ClassId} {B0 T : Nat} {κ : KM} {H0 : Heap} (hT : WT B0 D cs T κ H0) {w : Nat} (hw : T2 κ w 10 12) {x : Int32} {y : Int32} : KC l yX9_message wsX9_message 1 26 0 0 D cs B0 H0 [.ref w, .int x, .int y] (Qi (fun _ H => WT B0 D cs T κ H ∧ Fr B0 [12] κ H0 H)) := by
  refine KC.of cX9_message 3 (some .int) (by decide) rfl (Nat.le_of_ble_eq_true rfl) ?_
  intro p e s m below meth c ls hx hb hr hml hown hts hlocks hin hN hE hH0 hl
  have hown : s.vm.findClass RX9 = some m.cls := hown
  have hl : lv_has ls 3 [(0, .ref w), (1, .int x), (2, .int y)] := hl
  have hL : OkL B0 [] := OkL.nil
  have hF : Fr B0 [12] κ H0 H0 := Fr.rf
  refine lv_aload_n hx hb dX9_message_0 rfl (lv_at hl 0 rfl) ?_
  refine lv_iconst (v := 0) hx hb dX9_message_1 (by decide) ?_
  obtain ⟨hb1247, e1247, hat1247, hk1247⟩ := hT.o10 hw.1
  obtain ⟨f1247_0, f1247_1, f1247_3, f1247_4, f1247_5, f1247_6, f1247_7, f1247_9, f1247_10, f1247_11, f1247_12, f1247_13, f1247_14, f1247_15, f1247_16, f1247_17, rfl, c1247_2, c1247_3, c1247_4, c1247_12, t1247_1, t1247_8, t1247_9, c1247_sd, t1247_10, t1247_11, t1247_17⟩ := hk1247
  have hP : va_P D vwCl [(w, .inr (9, [.int f1247_0, .ref f1247_1, .int (nI ((κ w).2.2.1)), .int (nI f1247_3), .int (nI f1247_4), .int f1247_5, .int f1247_6, .int f1247_7, .ref (κ w).2.2.2, .ref f1247_9, .ref f1247_10, .ref f1247_11, .int (nI f1247_12), .int f1247_13, .int f1247_14, .int f1247_15, .int f1247_16, .ref f1247_17]))] _ := va_P.cons hat1247 va_P.nil
  have hB : Bx B0 D _ [(w, .inr (9, [.int f1247_0, .ref f1247_1, .int (nI ((κ w).2.2.1)), .int (nI f1247_3), .int (nI f1247_4), .int f1247_5, .int f1247_6, .int f1247_7, .ref (κ w).2.2.2, .ref f1247_9, .ref f1247_10, .ref f1247_11, .int (nI f1247_12), .int f1247_13, .int f1247_14, .int f1247_15, .int f1247_16, .ref f1247_17]))] [] _ _ := Bx.of (fun a => (κ a).1) hL hP (fa_c hb1247 fa_n) (by simp only [List.map_cons, List.map_nil, hw.1]; decide)
  refine b_put (D := D) (ci := 9) (v := .int 0) (ty := .int) (C := RX9) (T := TX9) (N := 18) hx hb hts iX9_message_9 tyX9 tyX9_ok nmX9 hown hN hB 0 rfl rfl 0 (by decide) (hts _ mX9_message_1) (fun _ h9 => h9) rfl (by decide +kernel) rfl rfl (Nat.le_of_ble_eq_true rfl) (.inl rfl) dX9_message_2 (fun H locs hB => ?_)
  have hB : Bx B0 D _ [(w, .inr (9, [.int 0, .ref f1247_1, .int (nI ((κ w).2.2.1)), .int (nI f1247_3), .int (nI f1247_4), .int f1247_5, .int f1247_6, .int f1247_7, .ref (κ w).2.2.2, .ref f1247_9, .ref f1247_10, .ref f1247_11, .int (nI f1247_12), .int f1247_13, .int f1247_14, .int f1247_15, .int f1247_16, .ref f1247_17]))] [w] _ _ := hB
  refine lv_aload_n hx hb dX9_message_5 rfl (lv_at hl 0 rfl) ?_
  refine lv_iload_n hx hb dX9_message_6 rfl (lv_at hl 1 rfl) ?_
  refine lv_iconst (v := 0) hx hb dX9_message_7 (by decide) ?_
  refine lv_aload_n hx hb dX9_message_8 rfl (lv_at hl 0 rfl) ?_
  refine va_get (D := D) (ci := 9) (v := .ref (κ w).2.2.2) (C := RX9) (T := TX9) (N := 18) hx hb hts iX9_message_9 hown hN.1 hB.1 0 rfl rfl 8 (by decide) (hts _ mX9_message_2) (fun _ h9 => h9) rfl dX9_message_9 ?_
  refine lv_iconst (v := 3) hx hb dX9_message_12 (by decide) ?_
  obtain ⟨hb1248, e1248, hat1248, hk1248⟩ := hT.o24 t1247_8.1
  obtain ⟨g1248, rfl, q1248⟩ := hk1248
  have hB : Bx B0 D _ [(w, .inr (9, [.int 0, .ref f1247_1, .int (nI ((κ w).2.2.1)), .int (nI f1247_3), .int (nI f1247_4), .int f1247_5, .int f1247_6, .int f1247_7, .ref (κ w).2.2.2, .ref f1247_9, .ref f1247_10, .ref f1247_11, .int (nI f1247_12), .int f1247_13, .int f1247_14, .int f1247_15, .int f1247_16, .ref f1247_17])), ((κ w).2.2.2, .inl (cs 0, 45783, .inl g1248))] [w] _ _ := hB.more hat1248 hb1248 (fa_c (ne_c hw.1 t1247_8.1 (by decide)) fa_n) (fa_c (ne_c hw.1 t1247_8.1 (by decide)) fa_n)
  refine ld_i (v := (g1248 3)) hx hb hN hB.1 1 rfl (vp_in_nI (n := 3) (N := 45783) (by omega) (by omega)) (by rw [(show (3 : Int32).toNatClampNeg = 3 from nI_clamp (n := 3) (by omega))]) dX9_message_13 ?_
  obtain ⟨n1249, hn1249, en1249⟩ := q1248.2.2.2.1
  refine tp_i (nI n1249) en1249 ?_
  refine lv_iconst (v := 1) hx hb dX9_message_14 (by decide) ?_
  refine lv_isub hx hb dX9_message_15 ?_
  have hT : WT B0 D cs T κ _ := hT.close hB ⟨⟨0, _, rfl, ok_10 hw.1 ⟨_, _, _, _, _, _, _, _, _, _, _, _, _, _, _, _, rfl, (by omega), (by omega), (by omega), (by omega), t1247_1, t1247_8, t1247_9, c1247_sd, t1247_10, t1247_11, t1247_17⟩⟩, trivial⟩
  have hF : Fr B0 [12] κ H0 _ := hF.close hB (fa_c (by simp [hw.2]) fa_n)
  have hL : OkL B0 _ := hB.2.2.2.2.2
  have hP : va_P D vwCl [(w, .inr (9, [.int 0, .ref f1247_1, .int (nI ((κ w).2.2.1)), .int (nI f1247_3), .int (nI f1247_4), .int f1247_5, .int f1247_6, .int f1247_7, .ref (κ w).2.2.2, .ref f1247_9, .ref f1247_10, .ref f1247_11, .int (nI f1247_12), .int f1247_13, .int f1247_14, .int f1247_15, .int f1247_16, .ref f1247_17])), ((κ w).2.2.2, .inl (cs 0, 45783, .inl g1248))] _ := hB.1
  refine cs_i (As := [.int x, .int 0, .int ((nI n1249) - 1)]) (rest := [.ref w]) ⟨hx, hb, hml, hown, hts⟩ (c_X9_in hT (x := x) (y := 0) (z := ((nI n1249) - 1))) (va_cwS 3 hts gX9_message_X9_in rfl rfl rfl hdX9_in_o ⟨Nat.le_of_ble_eq_true rfl, Nat.le_of_ble_eq_true rfl⟩) hN hE hL rfl rfl hl.1 (Nat.le_of_ble_eq_true rfl) dX9_message_16 (Nat.zero_le _) (Nat.zero_le _) (fun r1250 H1 locs hL hqr1250 => ?_)
  obtain ⟨h9, hqr1250⟩ := hqr1250; replace h9 := h9.symm; subst h9
  rcases hqr1250 with ⟨rfl, o1251⟩ | ⟨rfl, l1252, g1253⟩
  · refine lv_if_ne (tgt := 26) hx hb dX9_message_19 (by decide) (fun c9 => absurd (by decide) c9) (fun _ => ?_)
    refine lv_iconst (v := 1) hx hb dX9_message_22 (by decide) ?_
    refine lv_goto (tgt := 27) hx hb dX9_message_23 (by decide) ?_
    refine lv_iconst (v := 1) hx hb dX9_message_27 (by decide) ?_
    refine cv_i (As := [.int 1, .int 1]) (rest := []) (b := w) ⟨hx, hb, hml, hown, hts⟩ (c_X9_fails hT (w := w) hw (x := 1) (z := 1) ((by decide))) (cwV 2 hts gX9_message_X9_fails rfl rfl rfl hdX9_fails_v ⟨Nat.le_of_ble_eq_true rfl, Nat.le_of_ble_eq_true rfl⟩) hN hE hL (rcv10 hN hT hw.1) rfl rfl hl.1 (Nat.le_of_ble_eq_true rfl) dX9_message_28 (Nat.zero_le _) (Nat.zero_le _) (fun r1254 H1 locs hL hqr1254 => ?_)
    obtain ⟨hT1, hF1, hqr1254⟩ := hqr1254
    have hP : va_P D vwCl [((κ w).2.2.2, .inl (cs 0, 45783, .inl g1248))] _ := hF1.hP (hP.sub [1] rfl) (fa_c ⟨by rw [t1247_8.1]; decide, by rw [t1247_8.2]; first | decide | (simp; done) | (simp; omega)⟩ fa_n)
    have hF := hF.tr (hF1.mono (by simp))
    have hT := hT1
    rcases hqr1254 with rfl | ⟨rfl, e1255⟩
    · refine lv_if_ne (tgt := 56) hx hb dX9_message_31 (by decide) (fun _ => ?_) (fun c9 => absurd c9 (by decide))
      refine lv_iconst (v := 0) hx hb dX9_message_56 (by decide) ?_
      refine lv_goto (tgt := 70) hx hb dX9_message_57 (by decide) ?_
      exact en_i hx hb hr hlocks hL rfl (Nat.zero_le _) (Nat.zero_le _) dX9_message_70 (⟨hT, hF⟩)
    · exact absurd e1255 (by decide)
  · refine lv_if_ne (tgt := 26) hx hb dX9_message_19 (by decide) (fun _ => ?_) (fun c9 => absurd c9 (by decide))
    refine lv_iconst (v := 0) hx hb dX9_message_26 (by decide) ?_
    refine lv_iconst (v := 1) hx hb dX9_message_27 (by decide) ?_
    refine cv_i (As := [.int 0, .int 1]) (rest := []) (b := w) ⟨hx, hb, hml, hown, hts⟩ (c_X9_fails hT (w := w) hw (x := 0) (z := 1) ((by decide))) (cwV 2 hts gX9_message_X9_fails rfl rfl rfl hdX9_fails_v ⟨Nat.le_of_ble_eq_true rfl, Nat.le_of_ble_eq_true rfl⟩) hN hE hL (rcv10 hN hT hw.1) rfl rfl hl.1 (Nat.le_of_ble_eq_true rfl) dX9_message_28 (Nat.zero_le _) (Nat.zero_le _) (fun r1256 H1 locs hL hqr1256 => ?_)
    obtain ⟨hT1, hF1, hqr1256⟩ := hqr1256
    have hP : va_P D vwCl [((κ w).2.2.2, .inl (cs 0, 45783, .inl g1248))] _ := hF1.hP (hP.sub [1] rfl) (fa_c ⟨by rw [t1247_8.1]; decide, by rw [t1247_8.2]; first | decide | (simp; done) | (simp; omega)⟩ fa_n)
    have hF := hF.tr (hF1.mono (by simp))
    have hT := hT1
    rcases hqr1256 with rfl | ⟨rfl, e1257⟩
    · refine lv_if_ne (tgt := 56) hx hb dX9_message_31 (by decide) (fun _ => ?_) (fun c9 => absurd c9 (by decide))
      refine lv_iconst (v := 0) hx hb dX9_message_56 (by decide) ?_
      refine lv_goto (tgt := 70) hx hb dX9_message_57 (by decide) ?_
      exact en_i hx hb hr hlocks hL rfl (Nat.zero_le _) (Nat.zero_le _) dX9_message_70 (⟨hT, hF⟩)
    · refine lv_if_ne (tgt := 56) hx hb dX9_message_31 (by decide) (fun c9 => absurd (by decide) c9) (fun _ => ?_)
      obtain ⟨n1258, hn1258, rfl⟩ := rngN (by omega) l1252 g1253
      refine lv_aload_n hx hb dX9_message_34 rfl (lv_at hl 0 rfl) ?_
      refine lv_iload_n hx hb dX9_message_35 rfl (lv_at hl 2 rfl) ?_
      refine lv_iconst (v := 0) hx hb dX9_message_36 (by decide) ?_
      refine lv_iconst (v := 5) hx hb dX9_message_37 (by decide) ?_
      refine cs_i (As := [.int y, .int 0, .int 5]) (rest := [.ref w]) ⟨hx, hb, hml, hown, hts⟩ (c_X9_in hT (x := y) (y := 0) (z := 5)) (va_cwS 3 hts gX9_message_X9_in rfl rfl rfl hdX9_in_o ⟨Nat.le_of_ble_eq_true rfl, Nat.le_of_ble_eq_true rfl⟩) hN hE hL rfl rfl hl.1 (Nat.le_of_ble_eq_true rfl) dX9_message_38 (Nat.zero_le _) (Nat.zero_le _) (fun r1259 H1 locs hL hqr1259 => ?_)
      obtain ⟨h9, hqr1259⟩ := hqr1259; replace h9 := h9.symm; subst h9
      rcases hqr1259 with ⟨rfl, o1260⟩ | ⟨rfl, l1261, g1262⟩
      · refine lv_if_ne (tgt := 48) hx hb dX9_message_41 (by decide) (fun c9 => absurd (by decide) c9) (fun _ => ?_)
        refine lv_iconst (v := 1) hx hb dX9_message_44 (by decide) ?_
        refine lv_goto (tgt := 49) hx hb dX9_message_45 (by decide) ?_
        refine lv_iconst (v := 2) hx hb dX9_message_49 (by decide) ?_
        refine cv_i (As := [.int 1, .int 2]) (rest := []) (b := w) ⟨hx, hb, hml, hown, hts⟩ (c_X9_fails hT (w := w) hw (x := 1) (z := 2) ((by decide))) (cwV 2 hts gX9_message_X9_fails rfl rfl rfl hdX9_fails_v ⟨Nat.le_of_ble_eq_true rfl, Nat.le_of_ble_eq_true rfl⟩) hN hE hL (rcv10 hN hT hw.1) rfl rfl hl.1 (Nat.le_of_ble_eq_true rfl) dX9_message_50 (Nat.zero_le _) (Nat.zero_le _) (fun r1263 H1 locs hL hqr1263 => ?_)
        obtain ⟨hT1, hF1, hqr1263⟩ := hqr1263
        have hP : va_P D vwCl [((κ w).2.2.2, .inl (cs 0, 45783, .inl g1248))] _ := hF1.hP (hP.sub [0] rfl) (fa_c ⟨by rw [t1247_8.1]; decide, by rw [t1247_8.2]; first | decide | (simp; done) | (simp; omega)⟩ fa_n)
        have hF := hF.tr (hF1.mono (by simp))
        have hT := hT1
        rcases hqr1263 with rfl | ⟨rfl, e1264⟩
        · refine lv_if_eq (tgt := 60) hx hb dX9_message_53 (by decide) (fun c9 => absurd c9 (by decide)) (fun _ => ?_)
          refine lv_iconst (v := 0) hx hb dX9_message_56 (by decide) ?_
          refine lv_goto (tgt := 70) hx hb dX9_message_57 (by decide) ?_
          exact en_i hx hb hr hlocks hL rfl (Nat.zero_le _) (Nat.zero_le _) dX9_message_70 (⟨hT, hF⟩)
        · exact absurd e1264 (by decide)
      · refine lv_if_ne (tgt := 48) hx hb dX9_message_41 (by decide) (fun _ => ?_) (fun c9 => absurd c9 (by decide))
        refine lv_iconst (v := 0) hx hb dX9_message_48 (by decide) ?_
        refine lv_iconst (v := 2) hx hb dX9_message_49 (by decide) ?_
        refine cv_i (As := [.int 0, .int 2]) (rest := []) (b := w) ⟨hx, hb, hml, hown, hts⟩ (c_X9_fails hT (w := w) hw (x := 0) (z := 2) ((by decide))) (cwV 2 hts gX9_message_X9_fails rfl rfl rfl hdX9_fails_v ⟨Nat.le_of_ble_eq_true rfl, Nat.le_of_ble_eq_true rfl⟩) hN hE hL (rcv10 hN hT hw.1) rfl rfl hl.1 (Nat.le_of_ble_eq_true rfl) dX9_message_50 (Nat.zero_le _) (Nat.zero_le _) (fun r1265 H1 locs hL hqr1265 => ?_)
        obtain ⟨hT1, hF1, hqr1265⟩ := hqr1265
        have hP : va_P D vwCl [((κ w).2.2.2, .inl (cs 0, 45783, .inl g1248))] _ := hF1.hP (hP.sub [0] rfl) (fa_c ⟨by rw [t1247_8.1]; decide, by rw [t1247_8.2]; first | decide | (simp; done) | (simp; omega)⟩ fa_n)
        have hF := hF.tr (hF1.mono (by simp))
        have hT := hT1
        rcases hqr1265 with rfl | ⟨rfl, e1266⟩
        · refine lv_if_eq (tgt := 60) hx hb dX9_message_53 (by decide) (fun c9 => absurd c9 (by decide)) (fun _ => ?_)
          refine lv_iconst (v := 0) hx hb dX9_message_56 (by decide) ?_
          refine lv_goto (tgt := 70) hx hb dX9_message_57 (by decide) ?_
          exact en_i hx hb hr hlocks hL rfl (Nat.zero_le _) (Nat.zero_le _) dX9_message_70 (⟨hT, hF⟩)
        · refine lv_if_eq (tgt := 60) hx hb dX9_message_53 (by decide) (fun _ => ?_) (fun c9 => absurd (by decide) c9)
          obtain ⟨n1267, ln1267, hn1267, rfl⟩ := rng (lo := 0) (hi := 5) (by decide) (by decide) l1261 g1262
          refine lv_aload_n hx hb dX9_message_60 rfl (lv_at hl 0 rfl) ?_
          refine lv_aload_n hx hb dX9_message_61 rfl (lv_at hl 0 rfl) ?_
          refine lv_iload_n hx hb dX9_message_62 rfl (lv_at hl 1 rfl) ?_
          refine cv_i (As := [.int (nI n1258)]) (rest := [.ref w]) (b := w) ⟨hx, hb, hml, hown, hts⟩ (c_X9_messageAt hT (w := w) hw (k := n1258) (hP 0 _ rfl) en1249 (by omega) (by omega)) (cwV 1 hts gX9_message_X9_messageAt rfl rfl rfl hdX9_messageAt_v ⟨Nat.le_of_ble_eq_true rfl, Nat.le_of_ble_eq_true rfl⟩) hN hE hL (rcv10 hN hT hw.1) rfl rfl hl.1 (Nat.le_of_ble_eq_true rfl) dX9_message_63 (Nat.zero_le _) (Nat.zero_le _) (fun r1268 H1 locs hL hqr1268 => ?_)
          obtain ⟨h9, hqr1268⟩ := hqr1268; replace h9 := h9.symm; subst h9
          obtain ⟨n1269, h1270, rfl⟩ := hqr1268
          refine lv_iload_n hx hb dX9_message_66 rfl (lv_at hl 2 rfl) ?_
          refine cv_i (As := [.int (nI (1383 + 6 * n1269)), .int (nI n1267)]) (rest := []) (b := w) ⟨hx, hb, hml, hown, hts⟩ (c_X9_toldMessage hT (w := w) hw (n := n1269) (k := n1267) (by first | omega | decide | assumption) (by first | omega | decide | assumption)) (cwV 2 hts gX9_message_X9_toldMessage rfl rfl rfl hdX9_toldMessage_v ⟨Nat.le_of_ble_eq_true rfl, Nat.le_of_ble_eq_true rfl⟩) hN hE hL (rcv10 hN hT hw.1) rfl rfl hl.1 (Nat.le_of_ble_eq_true rfl) dX9_message_67 (Nat.zero_le _) (Nat.zero_le _) (fun r1271 H1 locs hL hqr1271 => ?_)
          obtain rfl := hqr1271.symm
          exact en_i hx hb hr hlocks hL rfl (Nat.zero_le _) (Nat.zero_le _) dX9_message_70 (⟨hT, hF⟩)
theorem mX9_checksum_1 : (.fieldLink RX9 40 "OneBeatModel" "thrown" "I" : Cond) ∈ wsX9_checksum := List.mem_of_getElem? (i := 1) (by decide +kernel)
theorem iX9_checksum_9 : ∀ w ∈ wsX90, w ∈ wsX9_checksum := fun w h => List.mem_of_mem_drop (List.mem_of_mem_take ((show wsX90 = (wsX9_checksum.drop 79).take 18 by decide +kernel) ▸ h))
theorem mX9_checksum_3 : (.fieldLink RX9 18 "OneBeatModel" "data" "[I" : Cond) ∈ wsX9_checksum := List.mem_of_getElem? (i := 3) (by decide +kernel)
theorem mX9_checksum_2 : (.constantLong RX9 305 (31) : Cond) ∈ wsX9_checksum := List.mem_of_getElem? (i := 2) (by decide +kernel)
set_option maxHeartbeats 4000000 in
set_option maxRecDepth 100000 in
theorem c_X9_checksum {l : Launch} {D : va_G} {cs : Nat → ClassId} {B0 T : Nat} {κ : KM} {H0 : Heap} (hT : WT B0 D cs T κ H0) {w : Nat} (hw : T2 κ w 10 12) (hTb : T ≤ 20000000) : KC l yX9_checksum wsX9_checksum 7 152 0 0 D cs B0 H0 [.ref w] (Ql (fun _ H => WT B0 D cs T κ H ∧ Fr B0 [12, 19] κ H0 H)) := by
  refine KC.of cX9_checksum 7 (some .long) (by decide) rfl (Nat.le_of_ble_eq_true rfl) ?_
  intro p e s m below meth c ls hx hb hr hml hown hts hlocks hin hN hE hH0 hl
  have hown : s.vm.findClass RX9 = some m.cls := hown
  have hl : lv_has ls 7 [(0, .ref w)] := hl
  have hL : OkL B0 [] := OkL.nil
  have hF : Fr B0 [12, 19] κ H0 H0 := Fr.rf
  refine lv_aload_n hx hb dX9_checksum_0 rfl (lv_at hl 0 rfl) ?_
  refine lv_iconst (v := 0) hx hb dX9_checksum_1 (by decide) ?_
  obtain ⟨hb1272, e1272, hat1272, hk1272⟩ := hT.o10 hw.1
  obtain ⟨f1272_0, f1272_1, f1272_3, f1272_4, f1272_5, f1272_6, f1272_7, f1272_9, f1272_10, f1272_11, f1272_12, f1272_13, f1272_14, f1272_15, f1272_16, f1272_17, rfl, c1272_2, c1272_3, c1272_4, c1272_12, t1272_1, t1272_8, t1272_9, c1272_sd, t1272_10, t1272_11, t1272_17⟩ := hk1272
  have hP : va_P D vwCl [(w, .inr (9, [.int f1272_0, .ref f1272_1, .int (nI ((κ w).2.2.1)), .int (nI f1272_3), .int (nI f1272_4), .int f1272_5, .int f1272_6, .int f1272_7, .ref (κ w).2.2.2, .ref f1272_9, .ref f1272_10, .ref f1272_11, .int (nI f1272_12), .int f1272_13, .int f1272_14, .int f1272_15, .int f1272_16, .ref f1272_17]))] _ := va_P.cons hat1272 va_P.nil
  have hB : Bx B0 D _ [(w, .inr (9, [.int f1272_0, .ref f1272_1, .int (nI ((κ w).2.2.1)), .int (nI f1272_3), .int (nI f1272_4), .int f1272_5, .int f1272_6, .int f1272_7, .ref (κ w).2.2.2, .ref f1272_9, .ref f1272_10, .ref f1272_11, .int (nI f1272_12), .int f1272_13, .int f1272_14, .int f1272_15, .int f1272_16, .ref f1272_17]))] [] _ _ := Bx.of (fun a => (κ a).1) hL hP (fa_c hb1272 fa_n) (by simp only [List.map_cons, List.map_nil, hw.1]; decide)
  refine b_put (D := D) (ci := 9) (v := .int 0) (ty := .int) (C := RX9) (T := TX9) (N := 18) hx hb hts iX9_checksum_9 tyX9 tyX9_ok nmX9 hown hN hB 0 rfl rfl 0 (by decide) (hts _ mX9_checksum_1) (fun _ h9 => h9) rfl (by decide +kernel) rfl rfl (Nat.le_of_ble_eq_true rfl) (.inl rfl) dX9_checksum_2 (fun H locs hB => ?_)
  have hB : Bx B0 D _ [(w, .inr (9, [.int 0, .ref f1272_1, .int (nI ((κ w).2.2.1)), .int (nI f1272_3), .int (nI f1272_4), .int f1272_5, .int f1272_6, .int f1272_7, .ref (κ w).2.2.2, .ref f1272_9, .ref f1272_10, .ref f1272_11, .int (nI f1272_12), .int f1272_13, .int f1272_14, .int f1272_15, .int f1272_16, .ref f1272_17]))] [w] _ _ := hB
  refine lv_lconst (v := 0) hx hb dX9_checksum_5 (by decide) ?_
  refine lv_lstore_n (lv' := [(1, .long 0), (0, .ref w)]) hx hb dX9_checksum_6 rfl hl (by decide) rfl (fun ls hl => ?_)
  refine lv_iconst (v := 0) hx hb dX9_checksum_7 (by decide) ?_
  refine lv_istore_n (lv' := [(3, .int 0), (1, .long 0), (0, .ref w)]) hx hb dX9_checksum_8 rfl hl (by decide) rfl (fun ls hl => ?_)
  have hT : WT B0 D cs T κ _ := hT.close hB ⟨⟨0, _, rfl, ok_10 hw.1 ⟨_, _, _, _, _, _, _, _, _, _, _, _, _, _, _, _, rfl, (by omega), (by omega), (by omega), (by omega), t1272_1, t1272_8, t1272_9, c1272_sd, t1272_10, t1272_11, t1272_17⟩⟩, trivial⟩
  have hF : Fr B0 [12, 19] κ H0 _ := hF.close hB (fa_c (by simp [hw.2]) fa_n)
  have hL : OkL B0 _ := hB.2.2.2.2.2
  have hP : va_P D vwCl [(w, .inr (9, [.int 0, .ref f1272_1, .int (nI ((κ w).2.2.1)), .int (nI f1272_3), .int (nI f1272_4), .int f1272_5, .int f1272_6, .int f1272_7, .ref (κ w).2.2.2, .ref f1272_9, .ref f1272_10, .ref f1272_11, .int (nI f1272_12), .int f1272_13, .int f1272_14, .int f1272_15, .int f1272_16, .ref f1272_17]))] _ := hB.1
  refine lp_m (α := Nat × Int64) (nL := 7) (fun a9 => 13 - a9.1) (fun a9 H9 l9 => (a9.1 ≤ 13) ∧ (WT B0 D cs T κ H9) ∧ (Fr B0 [12, 19] κ H0 H9) ∧ (OkL B0 l9)) (fun a9 => [(3, .int (nI a9.1)), (1, .long a9.2), (0, .ref w)]) ?_ (0, 0) _ _ _ ⟨(by show (0) ≤ 13; omega), hT, hF, hL⟩ (lv_sub hl [0, 1, 2] rfl)
  rintro ⟨j, y⟩ H locs ls ih1273 ⟨hj, hT, hF, hL⟩ hl
  have hl : lv_has ls 7 [(3, .int (nI j)), (1, .long y), (0, .ref w)] := hl
  have hj : j ≤ 13 := hj
  refine lv_iload_n hx hb dX9_checksum_9 rfl (lv_at hl 0 rfl) ?_
  refine lv_bipush (v := 13) hx hb dX9_checksum_10 (by decide) ?_
  refine lv_icmp_ge (tgt := 34) hx hb dX9_checksum_12 (by decide) (fun c1274 => ?_) (fun c1274 => ?_)
  · have c1274 : 13 ≤ j := (nI_leI (a := 13) (b := j) (by omega) (by omega)).mp c1274
    refine lv_iconst (v := 0) hx hb dX9_checksum_34 (by decide) ?_
    refine lv_istore_n (lv' := [(3, .int 0), (1, .long y), (0, .ref w)]) hx hb dX9_checksum_35 rfl hl (by decide) rfl (fun ls hl => ?_)
    refine lp_r (B0 := B0) (α := Nat × Int64) (nL := 7) (fun a9 => 8 - a9.1) (fun a9 => (a9.1 ≤ 8)) (fun a9 => [(3, .int (nI a9.1)), (1, .long a9.2), (0, .ref w)]) ?_ (0, y) _ _ (by show (0) ≤ 8; omega) hL (lv_sub hl [0, 1, 2] rfl)
    rintro ⟨p, y⟩ locs ls ih1275 hp hL hl
    have hl : lv_has ls 7 [(3, .int (nI p)), (1, .long y), (0, .ref w)] := hl
    have hp : p ≤ 8 := hp
    refine lv_iload_n hx hb dX9_checksum_36 rfl (lv_at hl 0 rfl) ?_
    refine lv_aload_n hx hb dX9_checksum_37 rfl (lv_at hl 2 rfl) ?_
    obtain ⟨hb1276, e1276, hat1276, hk1276⟩ := hT.o10 hw.1
    obtain ⟨f1276_0, f1276_1, f1276_3, f1276_4, f1276_5, f1276_6, f1276_7, f1276_9, f1276_10, f1276_11, f1276_12, f1276_13, f1276_14, f1276_15, f1276_16, f1276_17, rfl, c1276_2, c1276_3, c1276_4, c1276_12, t1276_1, t1276_8, t1276_9, c1276_sd, t1276_10, t1276_11, t1276_17⟩ := hk1276
    have hP : va_P D vwCl [(w, .inr (9, [.int f1276_0, .ref f1276_1, .int (nI ((κ w).2.2.1)), .int (nI f1276_3), .int (nI f1276_4), .int f1276_5, .int f1276_6, .int f1276_7, .ref (κ w).2.2.2, .ref f1276_9, .ref f1276_10, .ref f1276_11, .int (nI f1276_12), .int f1276_13, .int f1276_14, .int f1276_15, .int f1276_16, .ref f1276_17]))] _ := va_P.cons hat1276 va_P.nil
    refine va_get (D := D) (ci := 9) (v := .ref (κ w).2.2.2) (C := RX9) (T := TX9) (N := 18) hx hb hts iX9_checksum_9 hown hN.1 hP 0 rfl rfl 8 (by decide) (hts _ mX9_checksum_3) (fun _ h9 => h9) rfl dX9_checksum_38 ?_
    refine lv_iconst (v := 0) hx hb dX9_checksum_41 (by decide) ?_
    obtain ⟨hb1277, e1277, hat1277, hk1277⟩ := hT.o24 t1276_8.1
    obtain ⟨g1277, rfl, q1277⟩ := hk1277
    have hP : va_P D vwCl [((κ w).2.2.2, .inl (cs 0, 45783, .inl g1277)), (w, .inr (9, [.int f1276_0, .ref f1276_1, .int (nI ((κ w).2.2.1)), .int (nI f1276_3), .int (nI f1276_4), .int f1276_5, .int f1276_6, .int f1276_7, .ref (κ w).2.2.2, .ref f1276_9, .ref f1276_10, .ref f1276_11, .int (nI f1276_12), .int f1276_13, .int f1276_14, .int f1276_15, .int f1276_16, .ref f1276_17]))] _ := va_P.cons hat1277 hP
    refine ld_i (v := (g1277 0)) hx hb hN hP 0 rfl (vp_in_nI (n := 0) (N := 45783) (by omega) (by omega)) (by rw [(show (0 : Int32).toNatClampNeg = 0 from nI_clamp (n := 0) (by omega))]) dX9_checksum_42 ?_
    obtain ⟨n1278, hn1278, en1278⟩ := q1277.1
    refine tp_i (nI n1278) en1278 ?_
    refine lv_icmp_ge (tgt := 83) hx hb dX9_checksum_43 (by decide) (fun c1279 => ?_) (fun c1279 => ?_)
    · have c1279 : n1278 ≤ p := (nI_leI (a := n1278) (b := p) (by omega) (by omega)).mp c1279
      refine lv_aload_n hx hb dX9_checksum_83 rfl (lv_at hl 2 rfl) ?_
      refine va_get (D := D) (ci := 9) (v := .ref (κ w).2.2.2) (C := RX9) (T := TX9) (N := 18) hx hb hts iX9_checksum_9 hown hN.1 hP 1 rfl rfl 8 (by decide) (hts _ mX9_checksum_3) (fun _ h9 => h9) rfl dX9_checksum_84 ?_
      refine lv_iconst (v := 1) hx hb dX9_checksum_87 (by decide) ?_
      refine ld_i (v := (g1277 1)) hx hb hN hP 0 rfl (vp_in_nI (n := 1) (N := 45783) (by omega) (by omega)) (by rw [(show (1 : Int32).toNatClampNeg = 1 from nI_clamp (n := 1) (by omega))]) dX9_checksum_88 ?_
      obtain ⟨n1280, hn1280, en1280⟩ := q1277.2.1
      refine tp_i (nI n1280) en1280 ?_
      refine lv_iconst (v := 1) hx hb dX9_checksum_89 (by decide) ?_
      refine lv_iadd hx hb dX9_checksum_90 ?_
      refine tp_i (nI (n1280 + 1)) (nI_add n1280 1) ?_
      refine lv_istore_n (lv' := [(3, .int (nI (n1280 + 1))), (1, .long y), (0, .ref w)]) hx hb dX9_checksum_91 rfl hl (by decide) rfl (fun ls hl => ?_)
      refine lp_r (B0 := B0) (α := Nat × Int64) (nL := 7) (fun a9 => n1280 + 10 - a9.1) (fun a9 => (a9.1 ≤ n1280 + 10)) (fun a9 => [(3, .int (nI a9.1)), (1, .long a9.2), (0, .ref w)]) ?_ ((n1280 + 1), y) _ _ (by show ((n1280 + 1)) ≤ n1280 + 10; omega) hL (lv_sub hl [0, 1, 2] rfl)
      rintro ⟨t, y⟩ locs ls ih1281 ht hL hl
      have hl : lv_has ls 7 [(3, .int (nI t)), (1, .long y), (0, .ref w)] := hl
      have ht : t ≤ n1280 + 10 := ht
      refine lv_iload_n hx hb dX9_checksum_92 rfl (lv_at hl 0 rfl) ?_
      refine lv_aload_n hx hb dX9_checksum_93 rfl (lv_at hl 2 rfl) ?_
      refine va_get (D := D) (ci := 9) (v := .ref (κ w).2.2.2) (C := RX9) (T := TX9) (N := 18) hx hb hts iX9_checksum_9 hown hN.1 hP 1 rfl rfl 8 (by decide) (hts _ mX9_checksum_3) (fun _ h9 => h9) rfl dX9_checksum_94 ?_
      refine lv_iconst (v := 1) hx hb dX9_checksum_97 (by decide) ?_
      refine ld_i (v := (g1277 1)) hx hb hN hP 0 rfl (vp_in_nI (n := 1) (N := 45783) (by omega) (by omega)) (by rw [(show (1 : Int32).toNatClampNeg = 1 from nI_clamp (n := 1) (by omega))]) dX9_checksum_98 ?_
      refine tp_i (nI n1280) en1280 ?_
      refine lv_bipush (v := 9) hx hb dX9_checksum_99 (by decide) ?_
      refine lv_iadd hx hb dX9_checksum_101 ?_
      refine tp_i (nI (n1280 + 9)) (nI_add n1280 9) ?_
      refine lv_icmp_gt (tgt := 187) hx hb dX9_checksum_102 (by decide) (fun c1282 => ?_) (fun c1282 => ?_)
      · have c1282 : (n1280 + 9) < t := (nI_ltI (a := (n1280 + 9)) (b := t) (by omega) (by omega)).mp c1282
        refine lv_aload_n hx hb dX9_checksum_187 rfl (lv_at hl 2 rfl) ?_
        refine va_get (D := D) (ci := 9) (v := .ref (κ w).2.2.2) (C := RX9) (T := TX9) (N := 18) hx hb hts iX9_checksum_9 hown hN.1 hP 1 rfl rfl 8 (by decide) (hts _ mX9_checksum_3) (fun _ h9 => h9) rfl dX9_checksum_188 ?_
        refine lv_bipush (v := 6) hx hb dX9_checksum_191 (by decide) ?_
        refine ld_i (v := (g1277 6)) hx hb hN hP 0 rfl (vp_in_nI (n := 6) (N := 45783) (by omega) (by omega)) (by rw [(show (6 : Int32).toNatClampNeg = 6 from nI_clamp (n := 6) (by omega))]) dX9_checksum_193 ?_
        refine gn_i (fun x1283 => ?_)
        refine lv_if_ne (tgt := 199) hx hb dX9_checksum_194 (by decide) (fun c1284 => ?_) (fun c1284 => ?_)
        · refine lv_iconst (v := 0) hx hb dX9_checksum_199 (by decide) ?_
          refine lv_istore_n (lv' := [(3, .int 0), (1, .long y), (0, .ref w)]) hx hb dX9_checksum_200 rfl hl (by decide) rfl (fun ls hl => ?_)
          refine lp_r (B0 := B0) (α := Nat × Int64) (nL := 7) (fun a9 => 6 - a9.1) (fun a9 => (a9.1 ≤ 6)) (fun a9 => [(3, .int (nI a9.1)), (1, .long a9.2), (0, .ref w)]) ?_ (0, y) _ _ (by show (0) ≤ 6; omega) hL (lv_sub hl [0, 1, 2] rfl)
          rintro ⟨q, u⟩ locs ls ih1285 hq hL hl
          have hl : lv_has ls 7 [(3, .int (nI q)), (1, .long u), (0, .ref w)] := hl
          have hq : q ≤ 6 := hq
          refine lv_iload_n hx hb dX9_checksum_201 rfl (lv_at hl 0 rfl) ?_
          refine lv_bipush (v := 6) hx hb dX9_checksum_202 (by decide) ?_
          refine lv_icmp_ge (tgt := 230) hx hb dX9_checksum_204 (by decide) (fun c1286 => ?_) (fun c1286 => ?_)
          · have c1286 : 6 ≤ q := (nI_leI (a := 6) (b := q) (by omega) (by omega)).mp c1286
            refine lv_ldc2 (v := 31) hx hb hown (hts _ mX9_checksum_2) dX9_checksum_230 ?_
            refine lv_lload_n hx hb dX9_checksum_233 rfl (lv_at hl 1 rfl) ?_
            refine lv_lmul hx hb dX9_checksum_234 ?_
            refine gn_l (fun y1287 => ?_)
            refine lv_aload_n hx hb dX9_checksum_235 rfl (lv_at hl 2 rfl) ?_
            refine cv_i (As := []) (rest := [.long y1287]) (b := w) ⟨hx, hb, hml, hown, hts⟩ (c_X9_spreadNow hT (w := w) hw) (cwV 0 hts gX9_checksum_X9_spreadNow rfl rfl rfl hdX9_spreadNow_v ⟨Nat.le_of_ble_eq_true rfl, Nat.le_of_ble_eq_true rfl⟩) hN hE hL (rcv10 hN hT hw.1) rfl rfl hl.1 (Nat.le_of_ble_eq_true rfl) dX9_checksum_236 (Nat.zero_le _) (Nat.zero_le _) (fun r1288 H1 locs hL hqr1288 => ?_)
            obtain rfl := hqr1288.symm
            refine lv_i2l hx hb dX9_checksum_239 rfl ?_
            refine gn_l (fun y1289 => ?_)
            refine lv_ladd hx hb dX9_checksum_240 ?_
            refine gn_l (fun y1290 => ?_)
            exact en_l hx hb hr hlocks hL (Nat.zero_le _) (Nat.zero_le _) dX9_checksum_241 (⟨hT, hF⟩)
          · have c1286 : ¬ 6 ≤ q := fun h9 => c1286 ((nI_leI (a := 6) (b := q) (by omega) (by omega)).mpr h9)
            refine lv_ldc2 (v := 31) hx hb hown (hts _ mX9_checksum_2) dX9_checksum_207 ?_
            refine lv_lload_n hx hb dX9_checksum_210 rfl (lv_at hl 1 rfl) ?_
            refine lv_lmul hx hb dX9_checksum_211 ?_
            refine gn_l (fun y1291 => ?_)
            refine lv_aload_n hx hb dX9_checksum_212 rfl (lv_at hl 2 rfl) ?_
            refine va_get (D := D) (ci := 9) (v := .ref (κ w).2.2.2) (C := RX9) (T := TX9) (N := 18) hx hb hts iX9_checksum_9 hown hN.1 hP 1 rfl rfl 8 (by decide) (hts _ mX9_checksum_3) (fun _ h9 => h9) rfl dX9_checksum_213 ?_
            refine lv_bipush (v := 15) hx hb dX9_checksum_216 (by decide) ?_
            refine lv_iload_n hx hb dX9_checksum_218 rfl (lv_at hl 0 rfl) ?_
            refine lv_iadd hx hb dX9_checksum_219 ?_
            refine tp_i (nI (15 + q)) (nI_add 15 q) ?_
            refine ld_i (v := (g1277 (15 + q))) hx hb hN hP 0 rfl (vp_in_nI (n := (15 + q)) (N := 45783) (by omega) (by omega)) (by rw [(show ((nI (15 + q)) : Int32).toNatClampNeg = (15 + q) from nI_clamp (n := (15 + q)) (by omega))]) dX9_checksum_220 ?_
            refine gn_i (fun x1292 => ?_)
            refine lv_i2l hx hb dX9_checksum_221 rfl ?_
            refine gn_l (fun y1293 => ?_)
            refine lv_ladd hx hb dX9_checksum_222 ?_
            refine gn_l (fun y1294 => ?_)
            refine lv_lstore_n (lv' := [(1, .long y1294), (3, .int (nI q)), (0, .ref w)]) hx hb dX9_checksum_223 rfl hl (by decide) rfl (fun ls hl => ?_)
            refine lv_iinc (v := (nI (q + 1))) (lv' := [(3, .int (nI (q + 1))), (1, .long y1294), (0, .ref w)]) hx hb dX9_checksum_224 hl (k := 1) rfl (nI_add _ 1) (by decide) rfl (fun ls hl => ?_)
            refine lv_goto (tgt := 201) hx hb dX9_checksum_227 (by decide) ?_
            exact ih1285 ((q + 1), y1294) _ _ (by show 6 - ((q + 1)) < 6 - q; omega) (by show ((q + 1)) ≤ 6; omega) hL (lv_sub hl [0, 1, 2] rfl)
        · refine lv_lload_n hx hb dX9_checksum_197 rfl (lv_at hl 1 rfl) ?_
          exact en_l hx hb hr hlocks hL (Nat.zero_le _) (Nat.zero_le _) dX9_checksum_198 (⟨hT, hF⟩)
      · have c1282 : ¬ (n1280 + 9) < t := fun h9 => c1282 ((nI_ltI (a := (n1280 + 9)) (b := t) (by omega) (by omega)).mpr h9)
        refine lv_iconst (v := 0) hx hb dX9_checksum_105 (by decide) ?_
        refine lv_istore (lv' := [(4, .int 0), (3, .int (nI t)), (1, .long y), (0, .ref w)]) hx hb dX9_checksum_106 hl (by decide) rfl (fun ls hl => ?_)
        refine lp_r (B0 := B0) (α := Nat × Int64) (nL := 7) (fun a9 => 7400 - a9.1) (fun a9 => (a9.1 ≤ 7400)) (fun a9 => [(4, .int (nI a9.1)), (1, .long a9.2), (0, .ref w), (3, .int (nI t))]) ?_ (0, y) _ _ (by show (0) ≤ 7400; omega) hL (lv_sub hl [0, 2, 3, 1] rfl)
        rintro ⟨i, z⟩ locs ls ih1295 hi hL hl
        have hl : lv_has ls 7 [(4, .int (nI i)), (1, .long z), (0, .ref w), (3, .int (nI t))] := hl
        have hi : i ≤ 7400 := hi
        refine lv_iload hx hb dX9_checksum_108 (lv_at hl 0 rfl) ?_
        refine lv_aload_n hx hb dX9_checksum_110 rfl (lv_at hl 2 rfl) ?_
        refine va_get (D := D) (ci := 9) (v := .ref (κ w).2.2.2) (C := RX9) (T := TX9) (N := 18) hx hb hts iX9_checksum_9 hown hN.1 hP 1 rfl rfl 8 (by decide) (hts _ mX9_checksum_3) (fun _ h9 => h9) rfl dX9_checksum_111 ?_
        refine lv_iconst (v := 3) hx hb dX9_checksum_114 (by decide) ?_
        refine ld_i (v := (g1277 3)) hx hb hN hP 0 rfl (vp_in_nI (n := 3) (N := 45783) (by omega) (by omega)) (by rw [(show (3 : Int32).toNatClampNeg = 3 from nI_clamp (n := 3) (by omega))]) dX9_checksum_115 ?_
        obtain ⟨n1296, hn1296, en1296⟩ := q1277.2.2.2.1
        refine tp_i (nI n1296) en1296 ?_
        refine lv_icmp_ge (tgt := 181) hx hb dX9_checksum_116 (by decide) (fun c1297 => ?_) (fun c1297 => ?_)
        · have c1297 : n1296 ≤ i := (nI_leI (a := n1296) (b := i) (by omega) (by omega)).mp c1297
          refine lv_iinc (v := (nI (t + 1))) (lv' := [(3, .int (nI (t + 1))), (4, .int (nI i)), (1, .long z), (0, .ref w)]) hx hb dX9_checksum_181 hl (k := 3) rfl (nI_add _ 1) (by decide) rfl (fun ls hl => ?_)
          refine lv_goto (tgt := 92) hx hb dX9_checksum_184 (by decide) ?_
          exact ih1281 ((t + 1), z) _ _ (by show n1280 + 10 - ((t + 1)) < n1280 + 10 - t; omega) (by show ((t + 1)) ≤ n1280 + 10; omega) hL (lv_sub hl [0, 2, 3] rfl)
        · have c1297 : ¬ n1296 ≤ i := fun h9 => c1297 ((nI_leI (a := n1296) (b := i) (by omega) (by omega)).mpr h9)
          refine lv_sipush (v := 1383) hx hb dX9_checksum_119 (by decide) ?_
          refine lv_bipush (v := 6) hx hb dX9_checksum_122 (by decide) ?_
          refine lv_iload hx hb dX9_checksum_124 (lv_at hl 0 rfl) ?_
          refine lv_imul hx hb dX9_checksum_126 ?_
          refine tp_i (nI (6 * i)) (nI_mul 6 i) ?_
          refine lv_iadd hx hb dX9_checksum_127 ?_
          refine tp_i (nI (1383 + (6 * i))) (nI_add 1383 (6 * i)) ?_
          refine lv_istore (lv' := [(5, .int (nI (1383 + (6 * i)))), (4, .int (nI i)), (1, .long z), (0, .ref w), (3, .int (nI t))]) hx hb dX9_checksum_128 hl (by decide) rfl (fun ls hl => ?_)
          refine lv_iconst (v := 0) hx hb dX9_checksum_130 (by decide) ?_
          refine lv_istore (lv' := [(6, .int 0), (5, .int (nI (1383 + (6 * i)))), (4, .int (nI i)), (1, .long z), (0, .ref w), (3, .int (nI t))]) hx hb dX9_checksum_131 hl (by decide) rfl (fun ls hl => ?_)
          refine lp_r (B0 := B0) (α := Nat × Int64) (nL := 7) (fun a9 => 6 - a9.1) (fun a9 => (a9.1 ≤ 6)) (fun a9 => [(6, .int (nI a9.1)), (1, .long a9.2), (0, .ref w), (3, .int (nI t)), (4, .int (nI i)), (5, .int (nI (1383 + (6 * i))))]) ?_ (0, z) _ _ (by show (0) ≤ 6; omega) hL (lv_sub hl [0, 3, 4, 5, 2, 1] rfl)
          rintro ⟨q, u⟩ locs ls ih1298 hq hL hl
          have hl : lv_has ls 7 [(6, .int (nI q)), (1, .long u), (0, .ref w), (3, .int (nI t)), (4, .int (nI i)), (5, .int (nI (1383 + (6 * i))))] := hl
          have hq : q ≤ 6 := hq
          refine lv_iload hx hb dX9_checksum_133 (lv_at hl 0 rfl) ?_
          refine lv_bipush (v := 6) hx hb dX9_checksum_135 (by decide) ?_
          refine lv_icmp_ge (tgt := 175) hx hb dX9_checksum_137 (by decide) (fun c1299 => ?_) (fun c1299 => ?_)
          · have c1299 : 6 ≤ q := (nI_leI (a := 6) (b := q) (by omega) (by omega)).mp c1299
            refine lv_iinc (v := (nI (i + 1))) (lv' := [(4, .int (nI (i + 1))), (6, .int (nI q)), (1, .long u), (0, .ref w), (3, .int (nI t)), (5, .int (nI (1383 + (6 * i))))]) hx hb dX9_checksum_175 hl (k := 4) rfl (nI_add _ 1) (by decide) rfl (fun ls hl => ?_)
            refine lv_goto (tgt := 108) hx hb dX9_checksum_178 (by decide) ?_
            exact ih1295 ((i + 1), u) _ _ (by show 7400 - ((i + 1)) < 7400 - i; omega) (by show ((i + 1)) ≤ 7400; omega) hL (lv_sub hl [0, 2, 3, 4] rfl)
          · have c1299 : ¬ 6 ≤ q := fun h9 => c1299 ((nI_leI (a := 6) (b := q) (by omega) (by omega)).mpr h9)
            refine lv_aload_n hx hb dX9_checksum_140 rfl (lv_at hl 2 rfl) ?_
            refine va_get (D := D) (ci := 9) (v := .ref (κ w).2.2.2) (C := RX9) (T := TX9) (N := 18) hx hb hts iX9_checksum_9 hown hN.1 hP 1 rfl rfl 8 (by decide) (hts _ mX9_checksum_3) (fun _ h9 => h9) rfl dX9_checksum_141 ?_
            refine lv_iload hx hb dX9_checksum_144 (lv_at hl 5 rfl) ?_
            refine lv_iconst (v := 1) hx hb dX9_checksum_146 (by decide) ?_
            refine lv_iadd hx hb dX9_checksum_147 ?_
            refine tp_i (nI ((1383 + (6 * i)) + 1)) (nI_add (1383 + (6 * i)) 1) ?_
            refine ld_i (v := (g1277 ((1383 + (6 * i)) + 1))) hx hb hN hP 0 rfl (vp_in_nI (n := ((1383 + (6 * i)) + 1)) (N := 45783) (by omega) (by omega)) (by rw [(show ((nI ((1383 + (6 * i)) + 1)) : Int32).toNatClampNeg = ((1383 + (6 * i)) + 1) from nI_clamp (n := ((1383 + (6 * i)) + 1)) (by omega))]) dX9_checksum_148 ?_
            refine gn_i (fun x1300 => ?_)
            refine lv_iload_n hx hb dX9_checksum_149 rfl (lv_at hl 3 rfl) ?_
            refine lv_icmp_ne (tgt := 175) hx hb dX9_checksum_150 (by decide) (fun c1301 => ?_) (fun c1301 => ?_)
            · refine lv_iinc (v := (nI (i + 1))) (lv' := [(4, .int (nI (i + 1))), (6, .int (nI q)), (1, .long u), (0, .ref w), (3, .int (nI t)), (5, .int (nI (1383 + (6 * i))))]) hx hb dX9_checksum_175 hl (k := 4) rfl (nI_add _ 1) (by decide) rfl (fun ls hl => ?_)
              refine lv_goto (tgt := 108) hx hb dX9_checksum_178 (by decide) ?_
              exact ih1295 ((i + 1), u) _ _ (by show 7400 - ((i + 1)) < 7400 - i; omega) (by show ((i + 1)) ≤ 7400; omega) hL (lv_sub hl [0, 2, 3, 4] rfl)
            · refine lv_ldc2 (v := 31) hx hb hown (hts _ mX9_checksum_2) dX9_checksum_153 ?_
              refine lv_lload_n hx hb dX9_checksum_156 rfl (lv_at hl 1 rfl) ?_
              refine lv_lmul hx hb dX9_checksum_157 ?_
              refine gn_l (fun y1302 => ?_)
              refine lv_aload_n hx hb dX9_checksum_158 rfl (lv_at hl 2 rfl) ?_
              refine lv_iload hx hb dX9_checksum_159 (lv_at hl 5 rfl) ?_
              refine lv_iload hx hb dX9_checksum_161 (lv_at hl 0 rfl) ?_
              refine cv_i (As := [.int (nI (1383 + (6 * i))), .int (nI q)]) (rest := [.long y1302]) (b := w) ⟨hx, hb, hml, hown, hts⟩ (c_X9_toldMessage hT (w := w) hw (n := i) (k := q) (by first | omega | decide | assumption) (by first | omega | decide | assumption)) (cwV 2 hts gX9_checksum_X9_toldMessage rfl rfl rfl hdX9_toldMessage_v ⟨Nat.le_of_ble_eq_true rfl, Nat.le_of_ble_eq_true rfl⟩) hN hE hL (rcv10 hN hT hw.1) rfl rfl hl.1 (Nat.le_of_ble_eq_true rfl) dX9_checksum_163 (Nat.zero_le _) (Nat.zero_le _) (fun r1303 H1 locs hL hqr1303 => ?_)
              obtain rfl := hqr1303.symm
              refine lv_i2l hx hb dX9_checksum_166 rfl ?_
              refine gn_l (fun y1304 => ?_)
              refine lv_ladd hx hb dX9_checksum_167 ?_
              refine gn_l (fun y1305 => ?_)
              refine lv_lstore_n (lv' := [(1, .long y1305), (6, .int (nI q)), (0, .ref w), (3, .int (nI t)), (4, .int (nI i)), (5, .int (nI (1383 + (6 * i))))]) hx hb dX9_checksum_168 rfl hl (by decide) rfl (fun ls hl => ?_)
              refine lv_iinc (v := (nI (q + 1))) (lv' := [(6, .int (nI (q + 1))), (1, .long y1305), (0, .ref w), (3, .int (nI t)), (4, .int (nI i)), (5, .int (nI (1383 + (6 * i))))]) hx hb dX9_checksum_169 hl (k := 1) rfl (nI_add _ 1) (by decide) rfl (fun ls hl => ?_)
              refine lv_goto (tgt := 133) hx hb dX9_checksum_172 (by decide) ?_
              exact ih1298 ((q + 1), y1305) _ _ (by show 6 - ((q + 1)) < 6 - q; omega) (by show ((q + 1)) ≤ 6; omega) hL (lv_sub hl [0, 1, 2, 3, 4, 5] rfl)
    · have c1279 : ¬ n1278 ≤ p := fun h9 => c1279 ((nI_leI (a := n1278) (b := p) (by omega) (by omega)).mpr h9)
      refine lv_iconst (v := 0) hx hb dX9_checksum_46 (by decide) ?_
      refine lv_istore (lv' := [(4, .int 0), (3, .int (nI p)), (1, .long y), (0, .ref w)]) hx hb dX9_checksum_47 hl (by decide) rfl (fun ls hl => ?_)
      refine lp_r (B0 := B0) (α := Nat × Int64) (nL := 7) (fun a9 => 10 - a9.1) (fun a9 => (a9.1 ≤ 10)) (fun a9 => [(4, .int (nI a9.1)), (1, .long a9.2), (0, .ref w), (3, .int (nI p))]) ?_ (0, y) _ _ (by show (0) ≤ 10; omega) hL (lv_sub hl [0, 2, 3, 1] rfl)
      rintro ⟨q, z⟩ locs ls ih1306 hq hL hl
      have hl : lv_has ls 7 [(4, .int (nI q)), (1, .long z), (0, .ref w), (3, .int (nI p))] := hl
      have hq : q ≤ 10 := hq
      refine lv_iload hx hb dX9_checksum_49 (lv_at hl 0 rfl) ?_
      refine lv_bipush (v := 10) hx hb dX9_checksum_51 (by decide) ?_
      refine lv_icmp_ge (tgt := 77) hx hb dX9_checksum_53 (by decide) (fun c1307 => ?_) (fun c1307 => ?_)
      · have c1307 : 10 ≤ q := (nI_leI (a := 10) (b := q) (by omega) (by omega)).mp c1307
        refine lv_iinc (v := (nI (p + 1))) (lv' := [(3, .int (nI (p + 1))), (4, .int (nI q)), (1, .long z), (0, .ref w)]) hx hb dX9_checksum_77 hl (k := 3) rfl (nI_add _ 1) (by decide) rfl (fun ls hl => ?_)
        refine lv_goto (tgt := 36) hx hb dX9_checksum_80 (by decide) ?_
        exact ih1275 ((p + 1), z) _ _ (by show 8 - ((p + 1)) < 8 - p; omega) (by show ((p + 1)) ≤ 8; omega) hL (lv_sub hl [0, 2, 3] rfl)
      · have c1307 : ¬ 10 ≤ q := fun h9 => c1307 ((nI_leI (a := 10) (b := q) (by omega) (by omega)).mpr h9)
        refine lv_ldc2 (v := 31) hx hb hown (hts _ mX9_checksum_2) dX9_checksum_56 ?_
        refine lv_lload_n hx hb dX9_checksum_59 rfl (lv_at hl 1 rfl) ?_
        refine lv_lmul hx hb dX9_checksum_60 ?_
        refine gn_l (fun y1308 => ?_)
        refine lv_aload_n hx hb dX9_checksum_61 rfl (lv_at hl 2 rfl) ?_
        refine lv_iload_n hx hb dX9_checksum_62 rfl (lv_at hl 3 rfl) ?_
        refine lv_iload hx hb dX9_checksum_63 (lv_at hl 0 rfl) ?_
        refine cv_i (As := [.int (nI p), .int (nI q)]) (rest := [.long y1308]) (b := w) ⟨hx, hb, hml, hown, hts⟩ (c_X9_toldPlayer hT (w := w) hw (n := p) (y := (nI q)) (by first | omega | decide | assumption)) (cwV 2 hts gX9_checksum_X9_toldPlayer rfl rfl rfl hdX9_toldPlayer_v ⟨Nat.le_of_ble_eq_true rfl, Nat.le_of_ble_eq_true rfl⟩) hN hE hL (rcv10 hN hT hw.1) rfl rfl hl.1 (Nat.le_of_ble_eq_true rfl) dX9_checksum_65 (Nat.zero_le _) (Nat.zero_le _) (fun r1309 H1 locs hL hqr1309 => ?_)
        obtain rfl := hqr1309.symm
        refine lv_i2l hx hb dX9_checksum_68 rfl ?_
        refine gn_l (fun y1310 => ?_)
        refine lv_ladd hx hb dX9_checksum_69 ?_
        refine gn_l (fun y1311 => ?_)
        refine lv_lstore_n (lv' := [(1, .long y1311), (4, .int (nI q)), (0, .ref w), (3, .int (nI p))]) hx hb dX9_checksum_70 rfl hl (by decide) rfl (fun ls hl => ?_)
        refine lv_iinc (v := (nI (q + 1))) (lv' := [(4, .int (nI (q + 1))), (1, .long y1311), (0, .ref w), (3, .int (nI p))]) hx hb dX9_checksum_71 hl (k := 1) rfl (nI_add _ 1) (by decide) rfl (fun ls hl => ?_)
        refine lv_goto (tgt := 49) hx hb dX9_checksum_74 (by decide) ?_
        exact ih1306 ((q + 1), y1311) _ _ (by show 10 - ((q + 1)) < 10 - q; omega) (by show ((q + 1)) ≤ 10; omega) hL (lv_sub hl [0, 1, 2, 3] rfl)
  · have c1274 : ¬ 13 ≤ j := fun h9 => c1274 ((nI_leI (a := 13) (b := j) (by omega) (by omega)).mpr h9)
    refine lv_ldc2 (v := 31) hx hb hown (hts _ mX9_checksum_2) dX9_checksum_15 ?_
    refine lv_lload_n hx hb dX9_checksum_18 rfl (lv_at hl 1 rfl) ?_
    refine lv_lmul hx hb dX9_checksum_19 ?_
    refine gn_l (fun y1312 => ?_)
    refine lv_aload_n hx hb dX9_checksum_20 rfl (lv_at hl 2 rfl) ?_
    refine lv_iload_n hx hb dX9_checksum_21 rfl (lv_at hl 0 rfl) ?_
    refine cv_i (As := [.int (nI j)]) (rest := [.long y1312]) (b := w) ⟨hx, hb, hml, hown, hts⟩ (c_X9_told hT (w := w) hw (n := j) (by first | omega | decide | assumption)) (cwV 1 hts gX9_checksum_X9_told rfl rfl rfl hdX9_told_v ⟨Nat.le_of_ble_eq_true rfl, Nat.le_of_ble_eq_true rfl⟩) hN hE hL (rcv10 hN hT hw.1) rfl rfl hl.1 (Nat.le_of_ble_eq_true rfl) dX9_checksum_22 (Nat.zero_le _) (Nat.zero_le _) (fun r1313 H1 locs hL hqr1313 => ?_)
    obtain ⟨hT1, hF1⟩ := hqr1313
    have hF := hF.tr (hF1.mono (by simp))
    have hT := hT1
    refine lv_i2l hx hb dX9_checksum_25 rfl ?_
    refine gn_l (fun y1314 => ?_)
    refine lv_ladd hx hb dX9_checksum_26 ?_
    refine gn_l (fun y1315 => ?_)
    refine lv_lstore_n (lv' := [(1, .long y1315), (3, .int (nI j)), (0, .ref w)]) hx hb dX9_checksum_27 rfl hl (by decide) rfl (fun ls hl => ?_)
    refine lv_iinc (v := (nI (j + 1))) (lv' := [(3, .int (nI (j + 1))), (1, .long y1315), (0, .ref w)]) hx hb dX9_checksum_28 hl (k := 1) rfl (nI_add _ 1) (by decide) rfl (fun ls hl => ?_)
    refine lv_goto (tgt := 9) hx hb dX9_checksum_31 (by decide) ?_
    exact ih1273 ((j + 1), y1315) _ _ _ (by show 13 - ((j + 1)) < 13 - j; omega) ⟨(by show ((j + 1)) ≤ 13; omega), hT, hF, hL⟩ (lv_sub hl [0, 1, 2] rfl)
theorem mX9_meanError_1 : (.fieldLink RX9 40 "OneBeatModel" "thrown" "I" : Cond) ∈ wsX9_meanError := List.mem_of_getElem? (i := 1) (by decide +kernel)
theorem iX9_meanError_9 : ∀ w ∈ wsX90, w ∈ wsX9_meanError := fun w h => List.mem_of_mem_drop (List.mem_of_mem_take ((show wsX90 = (wsX9_meanError.drop 35).take 18 by decide +kernel) ▸ h))
theorem mX9_meanError_2 : (.fieldLink RX9 18 "OneBeatModel" "data" "[I" : Cond) ∈ wsX9_meanError := List.mem_of_getElem? (i := 2) (by decide +kernel)
theorem mX9_meanError_3 : (.methodLink RX9 297 Lib.Math.abs.name : Cond) ∈ wsX9_meanError := List.mem_of_getElem? (i := 3) (by decide +kernel)
theorem mX9_meanError_4 : (.static Lib.Math.abs.name : Cond) ∈ wsX9_meanError := List.mem_of_getElem? (i := 4) (by decide +kernel)
theorem mX9_meanError_5 : (.initialized "java/lang/Math" : Cond) ∈ wsX9_meanError := List.mem_of_getElem? (i := 5) (by decide +kernel)
theorem mX9_meanError_6 : (.code Lib.Math.abs.name Lib.Math.abs.code 1 (some .int) : Cond) ∈ wsX9_meanError := List.mem_of_getElem? (i := 6) (by decide +kernel)
set_option maxHeartbeats 4000000 in
set_option maxRecDepth 100000 in
theorem c_X9_meanError {l : Launch} {D : va_G} {cs : Nat → ClassId} {B0 T : Nat} {κ : KM} {H0 : Heap} (hT : WT B0 D cs T κ H0) {w : Nat} (hw : T2 κ w 10 12) : KC l yX9_meanError wsX9_meanError 5 106 0 0 D cs B0 H0 [.ref w] (Qd (fun _ H => WT B0 D cs T κ H ∧ Fr B0 [12] κ H0 H)) := by
  refine KC.of cX9_meanError 4 (some .double) (by decide) rfl (Nat.le_of_ble_eq_true rfl) ?_
  intro p e s m below meth c ls hx hb hr hml hown hts hlocks hin hN hE hH0 hl
  have hown : s.vm.findClass RX9 = some m.cls := hown
  have hl : lv_has ls 4 [(0, .ref w)] := hl
  have hL : OkL B0 [] := OkL.nil
  have hF : Fr B0 [12] κ H0 H0 := Fr.rf
  refine lv_aload_n hx hb dX9_meanError_0 rfl (lv_at hl 0 rfl) ?_
  refine lv_iconst (v := 0) hx hb dX9_meanError_1 (by decide) ?_
  obtain ⟨hb1316, e1316, hat1316, hk1316⟩ := hT.o10 hw.1
  obtain ⟨f1316_0, f1316_1, f1316_3, f1316_4, f1316_5, f1316_6, f1316_7, f1316_9, f1316_10, f1316_11, f1316_12, f1316_13, f1316_14, f1316_15, f1316_16, f1316_17, rfl, c1316_2, c1316_3, c1316_4, c1316_12, t1316_1, t1316_8, t1316_9, c1316_sd, t1316_10, t1316_11, t1316_17⟩ := hk1316
  have hP : va_P D vwCl [(w, .inr (9, [.int f1316_0, .ref f1316_1, .int (nI ((κ w).2.2.1)), .int (nI f1316_3), .int (nI f1316_4), .int f1316_5, .int f1316_6, .int f1316_7, .ref (κ w).2.2.2, .ref f1316_9, .ref f1316_10, .ref f1316_11, .int (nI f1316_12), .int f1316_13, .int f1316_14, .int f1316_15, .int f1316_16, .ref f1316_17]))] _ := va_P.cons hat1316 va_P.nil
  have hB : Bx B0 D _ [(w, .inr (9, [.int f1316_0, .ref f1316_1, .int (nI ((κ w).2.2.1)), .int (nI f1316_3), .int (nI f1316_4), .int f1316_5, .int f1316_6, .int f1316_7, .ref (κ w).2.2.2, .ref f1316_9, .ref f1316_10, .ref f1316_11, .int (nI f1316_12), .int f1316_13, .int f1316_14, .int f1316_15, .int f1316_16, .ref f1316_17]))] [] _ _ := Bx.of (fun a => (κ a).1) hL hP (fa_c hb1316 fa_n) (by simp only [List.map_cons, List.map_nil, hw.1]; decide)
  refine b_put (D := D) (ci := 9) (v := .int 0) (ty := .int) (C := RX9) (T := TX9) (N := 18) hx hb hts iX9_meanError_9 tyX9 tyX9_ok nmX9 hown hN hB 0 rfl rfl 0 (by decide) (hts _ mX9_meanError_1) (fun _ h9 => h9) rfl (by decide +kernel) rfl rfl (Nat.le_of_ble_eq_true rfl) (.inl rfl) dX9_meanError_2 (fun H locs hB => ?_)
  have hB : Bx B0 D _ [(w, .inr (9, [.int 0, .ref f1316_1, .int (nI ((κ w).2.2.1)), .int (nI f1316_3), .int (nI f1316_4), .int f1316_5, .int f1316_6, .int f1316_7, .ref (κ w).2.2.2, .ref f1316_9, .ref f1316_10, .ref f1316_11, .int (nI f1316_12), .int f1316_13, .int f1316_14, .int f1316_15, .int f1316_16, .ref f1316_17]))] [w] _ _ := hB
  refine lv_iconst (v := 0) hx hb dX9_meanError_5 (by decide) ?_
  refine lv_istore_n (lv' := [(1, .int 0), (0, .ref w)]) hx hb dX9_meanError_6 rfl hl (by decide) rfl (fun ls hl => ?_)
  refine lv_aload_n hx hb dX9_meanError_7 rfl (lv_at hl 1 rfl) ?_
  have hT : WT B0 D cs T κ _ := hT.close hB ⟨⟨0, _, rfl, ok_10 hw.1 ⟨_, _, _, _, _, _, _, _, _, _, _, _, _, _, _, _, rfl, (by omega), (by omega), (by omega), (by omega), t1316_1, t1316_8, t1316_9, c1316_sd, t1316_10, t1316_11, t1316_17⟩⟩, trivial⟩
  have hF : Fr B0 [12] κ H0 _ := hF.close hB (fa_c (by simp [hw.2]) fa_n)
  have hL : OkL B0 _ := hB.2.2.2.2.2
  have hP : va_P D vwCl [(w, .inr (9, [.int 0, .ref f1316_1, .int (nI ((κ w).2.2.1)), .int (nI f1316_3), .int (nI f1316_4), .int f1316_5, .int f1316_6, .int f1316_7, .ref (κ w).2.2.2, .ref f1316_9, .ref f1316_10, .ref f1316_11, .int (nI f1316_12), .int f1316_13, .int f1316_14, .int f1316_15, .int f1316_16, .ref f1316_17]))] _ := hB.1
  refine cv_i (As := []) (rest := []) (b := w) ⟨hx, hb, hml, hown, hts⟩ (c_X9_playersUp hT (w := w) hw) (cwV 0 hts gX9_meanError_X9_playersUp rfl rfl rfl hdX9_playersUp_v ⟨Nat.le_of_ble_eq_true rfl, Nat.le_of_ble_eq_true rfl⟩) hN hE hL (rcv10 hN hT hw.1) rfl rfl hl.1 (Nat.le_of_ble_eq_true rfl) dX9_meanError_8 (Nat.zero_le _) (Nat.zero_le _) (fun r1317 H1 locs hL hqr1317 => ?_)
  obtain rfl := hqr1317.symm
  refine lv_istore_n (lv' := [(2, .int r1317), (1, .int 0), (0, .ref w)]) hx hb dX9_meanError_11 rfl hl (by decide) rfl (fun ls hl => ?_)
  refine lv_iconst (v := 0) hx hb dX9_meanError_12 (by decide) ?_
  refine lv_istore_n (lv' := [(3, .int 0), (2, .int r1317), (1, .int 0), (0, .ref w)]) hx hb dX9_meanError_13 rfl hl (by decide) rfl (fun ls hl => ?_)
  refine lp_r (B0 := B0) (α := Nat × Int32 × Int32) (nL := 4) (fun a9 => 8 - a9.1) (fun a9 => (a9.1 ≤ 8)) (fun a9 => [(3, .int (nI a9.1)), (1, .int a9.2.1), (2, .int a9.2.2), (0, .ref w)]) ?_ (0, 0, r1317) _ _ (by show (0) ≤ 8; omega) hL (lv_sub hl [0, 2, 1, 3] rfl)
  rintro ⟨p, x, z⟩ locs ls ih1318 hp hL hl
  have hl : lv_has ls 4 [(3, .int (nI p)), (1, .int x), (2, .int z), (0, .ref w)] := hl
  have hp : p ≤ 8 := hp
  refine lv_iload_n hx hb dX9_meanError_14 rfl (lv_at hl 0 rfl) ?_
  refine lv_aload_n hx hb dX9_meanError_15 rfl (lv_at hl 3 rfl) ?_
  refine va_get (D := D) (ci := 9) (v := .ref (κ w).2.2.2) (C := RX9) (T := TX9) (N := 18) hx hb hts iX9_meanError_9 hown hN.1 hP 0 rfl rfl 8 (by decide) (hts _ mX9_meanError_2) (fun _ h9 => h9) rfl dX9_meanError_16 ?_
  refine lv_iconst (v := 0) hx hb dX9_meanError_19 (by decide) ?_
  obtain ⟨hb1319, e1319, hat1319, hk1319⟩ := hT.o24 t1316_8.1
  obtain ⟨g1319, rfl, q1319⟩ := hk1319
  have hP : va_P D vwCl [((κ w).2.2.2, .inl (cs 0, 45783, .inl g1319)), (w, .inr (9, [.int 0, .ref f1316_1, .int (nI ((κ w).2.2.1)), .int (nI f1316_3), .int (nI f1316_4), .int f1316_5, .int f1316_6, .int f1316_7, .ref (κ w).2.2.2, .ref f1316_9, .ref f1316_10, .ref f1316_11, .int (nI f1316_12), .int f1316_13, .int f1316_14, .int f1316_15, .int f1316_16, .ref f1316_17]))] _ := va_P.cons hat1319 hP
  refine ld_i (v := (g1319 0)) hx hb hN hP 0 rfl (vp_in_nI (n := 0) (N := 45783) (by omega) (by omega)) (by rw [(show (0 : Int32).toNatClampNeg = 0 from nI_clamp (n := 0) (by omega))]) dX9_meanError_20 ?_
  obtain ⟨n1320, hn1320, en1320⟩ := q1319.1
  refine tp_i (nI n1320) en1320 ?_
  refine lv_icmp_ge (tgt := 55) hx hb dX9_meanError_21 (by decide) (fun c1321 => ?_) (fun c1321 => ?_)
  · have c1321 : n1320 ≤ p := (nI_leI (a := n1320) (b := p) (by omega) (by omega)).mp c1321
    refine lv_iload_n hx hb dX9_meanError_55 rfl (lv_at hl 2 rfl) ?_
    refine lv_if_ne (tgt := 63) hx hb dX9_meanError_56 (by decide) (fun c1322 => ?_) (fun c1322 => ?_)
    · refine lv_iload_n hx hb dX9_meanError_63 rfl (lv_at hl 1 rfl) ?_
      refine lv_i2d hx hb dX9_meanError_64 ?_
      refine lv_iload_n hx hb dX9_meanError_65 rfl (lv_at hl 2 rfl) ?_
      refine lv_i2d hx hb dX9_meanError_66 ?_
      refine lv_ddiv hx hb dX9_meanError_67 (dd_i x c1322) ?_
      refine gn_d (fun z1323 => ?_)
      exact en_d hx hb hr hlocks hL (Nat.zero_le _) (Nat.zero_le _) dX9_meanError_68 (⟨hT, hF⟩)
    · refine lv_dconst0 hx hb dX9_meanError_59 ?_
      refine gn_d (fun z1324 => ?_)
      refine lv_goto (tgt := 68) hx hb dX9_meanError_60 (by decide) ?_
      exact en_d hx hb hr hlocks hL (Nat.zero_le _) (Nat.zero_le _) dX9_meanError_68 (⟨hT, hF⟩)
  · have c1321 : ¬ n1320 ≤ p := fun h9 => c1321 ((nI_leI (a := n1320) (b := p) (by omega) (by omega)).mpr h9)
    refine lv_iload_n hx hb dX9_meanError_24 rfl (lv_at hl 1 rfl) ?_
    refine lv_aload_n hx hb dX9_meanError_25 rfl (lv_at hl 3 rfl) ?_
    refine lv_iload_n hx hb dX9_meanError_26 rfl (lv_at hl 0 rfl) ?_
    refine cv_i (As := [.int (nI p)]) (rest := [.int x]) (b := w) ⟨hx, hb, hml, hown, hts⟩ (c_X9_isUp hT (w := w) hw (n := p) (by first | omega | decide | assumption)) (cwV 1 hts gX9_meanError_X9_isUp rfl rfl rfl hdX9_isUp_v ⟨Nat.le_of_ble_eq_true rfl, Nat.le_of_ble_eq_true rfl⟩) hN hE hL (rcv10 hN hT hw.1) rfl rfl hl.1 (Nat.le_of_ble_eq_true rfl) dX9_meanError_27 (Nat.zero_le _) (Nat.zero_le _) (fun r1325 H1 locs hL hqr1325 => ?_)
    obtain ⟨h9, hqr1325⟩ := hqr1325; replace h9 := h9.symm; subst h9
    rcases hqr1325 with rfl | rfl
    · refine lv_if_eq (tgt := 46) hx hb dX9_meanError_30 (by decide) (fun _ => ?_) (fun c9 => absurd (by decide) c9)
      refine lv_iconst (v := 0) hx hb dX9_meanError_46 (by decide) ?_
      refine lv_iadd hx hb dX9_meanError_47 ?_
      refine gn_i (fun x1326 => ?_)
      refine lv_istore_n (lv' := [(1, .int x1326), (3, .int (nI p)), (2, .int z), (0, .ref w)]) hx hb dX9_meanError_48 rfl hl (by decide) rfl (fun ls hl => ?_)
      refine lv_iinc (v := (nI (p + 1))) (lv' := [(3, .int (nI (p + 1))), (1, .int x1326), (2, .int z), (0, .ref w)]) hx hb dX9_meanError_49 hl (k := 1) rfl (nI_add _ 1) (by decide) rfl (fun ls hl => ?_)
      refine lv_goto (tgt := 14) hx hb dX9_meanError_52 (by decide) ?_
      exact ih1318 ((p + 1), x1326, z) _ _ (by show 8 - ((p + 1)) < 8 - p; omega) (by show ((p + 1)) ≤ 8; omega) hL (lv_sub hl [0, 1, 2, 3] rfl)
    · refine lv_if_eq (tgt := 46) hx hb dX9_meanError_30 (by decide) (fun c9 => absurd c9 (by decide)) (fun _ => ?_)
      refine lv_aload_n hx hb dX9_meanError_33 rfl (lv_at hl 3 rfl) ?_
      refine lv_iload_n hx hb dX9_meanError_34 rfl (lv_at hl 0 rfl) ?_
      refine lv_bipush (v := 9) hx hb dX9_meanError_35 (by decide) ?_
      refine cv_i (As := [.int (nI p), .int 9]) (rest := [.int x]) (b := w) ⟨hx, hb, hml, hown, hts⟩ (c_X9_toldPlayer hT (w := w) hw (n := p) (y := 9) (by first | omega | decide | assumption)) (cwV 2 hts gX9_meanError_X9_toldPlayer rfl rfl rfl hdX9_toldPlayer_v ⟨Nat.le_of_ble_eq_true rfl, Nat.le_of_ble_eq_true rfl⟩) hN hE hL (rcv10 hN hT hw.1) rfl rfl hl.1 (Nat.le_of_ble_eq_true rfl) dX9_meanError_37 (Nat.zero_le _) (Nat.zero_le _) (fun r1327 H1 locs hL hqr1327 => ?_)
      obtain rfl := hqr1327.symm
      refine va_mabs hx hb (hml.trans hl.1.symm) hown (hts _ mX9_meanError_3) (hts _ mX9_meanError_4) (hts _ mX9_meanError_5) (hts _ mX9_meanError_6) (Nat.le_of_ble_eq_true rfl) (Nat.le_of_ble_eq_true rfl) (Nat.zero_le _) (Nat.zero_le _) dX9_meanError_40 ?_
      refine gn_i (fun x1328 => ?_)
      refine lv_goto (tgt := 47) hx hb dX9_meanError_43 (by decide) ?_
      refine lv_iadd hx hb dX9_meanError_47 ?_
      refine gn_i (fun x1329 => ?_)
      refine lv_istore_n (lv' := [(1, .int x1329), (3, .int (nI p)), (2, .int z), (0, .ref w)]) hx hb dX9_meanError_48 rfl hl (by decide) rfl (fun ls hl => ?_)
      refine lv_iinc (v := (nI (p + 1))) (lv' := [(3, .int (nI (p + 1))), (1, .int x1329), (2, .int z), (0, .ref w)]) hx hb dX9_meanError_49 hl (k := 1) rfl (nI_add _ 1) (by decide) rfl (fun ls hl => ?_)
      refine lv_goto (tgt := 14) hx hb dX9_meanError_52 (by decide) ?_
      exact ih1318 ((p + 1), x1329, z) _ _ (by show 8 - ((p + 1)) < 8 - p; omega) (by show ((p + 1)) ≤ 8; omega) hL (lv_sub hl [0, 1, 2, 3] rfl)
theorem mX9_append_1 : (.fieldLink RX9 40 "OneBeatModel" "thrown" "I" : Cond) ∈ wsX9_append := List.mem_of_getElem? (i := 1) (by decide +kernel)
theorem iX9_append_9 : ∀ w ∈ wsX90, w ∈ wsX9_append := fun w h => List.mem_of_mem_drop (List.mem_of_mem_take ((show wsX90 = (wsX9_append.drop 4).take 18 by decide +kernel) ▸ h))
theorem mX9_append_2 : (.fieldLink RX9 47 "OneBeatModel" "bufferLength" "I" : Cond) ∈ wsX9_append := List.mem_of_getElem? (i := 2) (by decide +kernel)
theorem mX9_append_3 : (.fieldLink RX9 9 "OneBeatModel" "buffer" "[I" : Cond) ∈ wsX9_append := List.mem_of_getElem? (i := 3) (by decide +kernel)
set_option maxHeartbeats 4000000 in
set_option maxRecDepth 100000 in
theorem c_X9_append {l : Launch} {D : va_G} {cs : Nat → ClassId} {B0 T : Nat} {κ : KM} {H0 : Heap} (hT : WT B0 D cs T κ H0) {w : Nat} (hw : T2 κ w 10 12) {x : Int32} {y : Int32} {z : Int32} {u : Int32} {v : Int32} : KC l yX9_append wsX9_append 0 0 0 0 D cs B0 H0 [.ref w, .int x, .int y, .int z, .int u, .int v] (Qi (fun r H => (r = -1 ∧ 600 < (κ w).2.2.1 + 20 ∧ WT B0 D cs T κ H ∧ Fr B0 [12, 14] κ H0 H) ∨ (r = nI ((κ w).2.2.1 + 20) ∧ (κ w).2.2.1 + 20 ≤ 600 ∧ WT B0 D cs T (kp κ w ((κ w).2.2.1 + 20) (κ w).2.2.2) H ∧ Fr B0 [12, 14] κ H0 H))) := by
  refine KC.of cX9_append 8 (some .int) (by decide) rfl (Nat.le_of_ble_eq_true rfl) ?_
  intro p e s m below meth c ls hx hb hr hml hown hts hlocks hin hN hE hH0 hl
  have hown : s.vm.findClass RX9 = some m.cls := hown
  have hl : lv_has ls 8 [(0, .ref w), (1, .int x), (2, .int y), (3, .int z), (4, .int u), (5, .int v)] := hl
  have hL : OkL B0 [] := OkL.nil
  have hF : Fr B0 [12, 14] κ H0 H0 := Fr.rf
  refine lv_aload_n hx hb dX9_append_0 rfl (lv_at hl 0 rfl) ?_
  refine lv_iconst (v := 0) hx hb dX9_append_1 (by decide) ?_
  obtain ⟨hb1330, e1330, hat1330, hk1330⟩ := hT.o10 hw.1
  obtain ⟨f1330_0, f1330_1, f1330_3, f1330_4, f1330_5, f1330_6, f1330_7, f1330_9, f1330_10, f1330_11, f1330_12, f1330_13, f1330_14, f1330_15, f1330_16, f1330_17, rfl, c1330_2, c1330_3, c1330_4, c1330_12, t1330_1, t1330_8, t1330_9, c1330_sd, t1330_10, t1330_11, t1330_17⟩ := hk1330
  have hP : va_P D vwCl [(w, .inr (9, [.int f1330_0, .ref f1330_1, .int (nI ((κ w).2.2.1)), .int (nI f1330_3), .int (nI f1330_4), .int f1330_5, .int f1330_6, .int f1330_7, .ref (κ w).2.2.2, .ref f1330_9, .ref f1330_10, .ref f1330_11, .int (nI f1330_12), .int f1330_13, .int f1330_14, .int f1330_15, .int f1330_16, .ref f1330_17]))] _ := va_P.cons hat1330 va_P.nil
  have hB : Bx B0 D _ [(w, .inr (9, [.int f1330_0, .ref f1330_1, .int (nI ((κ w).2.2.1)), .int (nI f1330_3), .int (nI f1330_4), .int f1330_5, .int f1330_6, .int f1330_7, .ref (κ w).2.2.2, .ref f1330_9, .ref f1330_10, .ref f1330_11, .int (nI f1330_12), .int f1330_13, .int f1330_14, .int f1330_15, .int f1330_16, .ref f1330_17]))] [] _ _ := Bx.of (fun a => (κ a).1) hL hP (fa_c hb1330 fa_n) (by simp only [List.map_cons, List.map_nil, hw.1]; decide)
  refine b_put (D := D) (ci := 9) (v := .int 0) (ty := .int) (C := RX9) (T := TX9) (N := 18) hx hb hts iX9_append_9 tyX9 tyX9_ok nmX9 hown hN hB 0 rfl rfl 0 (by decide) (hts _ mX9_append_1) (fun _ h9 => h9) rfl (by decide +kernel) rfl rfl (Nat.le_of_ble_eq_true rfl) (.inl rfl) dX9_append_2 (fun H locs hB => ?_)
  have hB : Bx B0 D _ [(w, .inr (9, [.int 0, .ref f1330_1, .int (nI ((κ w).2.2.1)), .int (nI f1330_3), .int (nI f1330_4), .int f1330_5, .int f1330_6, .int f1330_7, .ref (κ w).2.2.2, .ref f1330_9, .ref f1330_10, .ref f1330_11, .int (nI f1330_12), .int f1330_13, .int f1330_14, .int f1330_15, .int f1330_16, .ref f1330_17]))] [w] _ _ := hB
  refine lv_aload_n hx hb dX9_append_5 rfl (lv_at hl 0 rfl) ?_
  refine va_get (D := D) (ci := 9) (v := .int (nI ((κ w).2.2.1))) (C := RX9) (T := TX9) (N := 18) hx hb hts iX9_append_9 hown hN.1 hB.1 0 rfl rfl 2 (by decide) (hts _ mX9_append_2) (fun _ h9 => h9) rfl dX9_append_6 ?_
  refine lv_bipush (v := 20) hx hb dX9_append_9 (by decide) ?_
  refine lv_iadd hx hb dX9_append_11 ?_
  refine tp_i (nI (((κ w).2.2.1) + 20)) (nI_add ((κ w).2.2.1) 20) ?_
  refine lv_sipush (v := 600) hx hb dX9_append_12 (by decide) ?_
  refine lv_icmp_le (tgt := 20) hx hb dX9_append_15 (by decide) (fun c1331 => ?_) (fun c1331 => ?_)
  · have c1331 : (((κ w).2.2.1) + 20) ≤ 600 := (nI_leI (a := (((κ w).2.2.1) + 20)) (b := 600) (by omega) (by omega)).mp c1331
    obtain ⟨hb1332, e1332, hat1332, hk1332⟩ := hT.o23 t1330_1.1
    obtain ⟨g1332, rfl⟩ := hk1332
    have hB : Bx B0 D _ [(w, .inr (9, [.int 0, .ref f1330_1, .int (nI ((κ w).2.2.1)), .int (nI f1330_3), .int (nI f1330_4), .int f1330_5, .int f1330_6, .int f1330_7, .ref (κ w).2.2.2, .ref f1330_9, .ref f1330_10, .ref f1330_11, .int (nI f1330_12), .int f1330_13, .int f1330_14, .int f1330_15, .int f1330_16, .ref f1330_17])), (f1330_1, .inl (cs 0, 600, .inl g1332))] [w] _ _ := hB.more hat1332 hb1332 (fa_c (ne_c hw.1 t1330_1.1 (by decide)) fa_n) (fa_c (ne_c hw.1 t1330_1.1 (by decide)) fa_n)
    refine lv_iconst (v := 0) hx hb dX9_append_20 (by decide) ?_
    refine lv_istore (lv' := [(6, .int 0), (0, .ref w), (1, .int x), (2, .int y), (3, .int z), (4, .int u), (5, .int v)]) hx hb dX9_append_21 hl (by decide) rfl (fun ls hl => ?_)
    have hB : Bx B0 D _ [(w, .inr (9, [.int 0, .ref f1330_1, .int (nI ((κ w).2.2.1)), .int (nI f1330_3), .int (nI f1330_4), .int f1330_5, .int f1330_6, .int f1330_7, .ref (κ w).2.2.2, .ref f1330_9, .ref f1330_10, .ref f1330_11, .int (nI f1330_12), .int f1330_13, .int f1330_14, .int f1330_15, .int f1330_16, .ref f1330_17])), (f1330_1, .inl (cs 0, 600, .inl g1332))] [f1330_1, w] _ _ := hB.ms (by simp) (fa_c hb1332 (fa_c hb1330 fa_n))
    refine lp_m (α := Nat × (Nat → Int32)) (nL := 8) (fun a9 => 20 - a9.1) (fun a9 H9 l9 => (a9.1 ≤ 20) ∧ (Bx B0 D H0 [(w, .inr (9, [.int 0, .ref f1330_1, .int (nI ((κ w).2.2.1 + a9.1)), .int (nI f1330_3), .int (nI f1330_4), .int f1330_5, .int f1330_6, .int f1330_7, .ref (κ w).2.2.2, .ref f1330_9, .ref f1330_10, .ref f1330_11, .int (nI f1330_12), .int f1330_13, .int f1330_14, .int f1330_15, .int f1330_16, .ref f1330_17])), (f1330_1, .inl (cs 0, 600, .inl a9.2))] [f1330_1, w] H9 l9)) (fun a9 => [(6, .int (nI a9.1)), (0, .ref w), (1, .int x), (2, .int y), (3, .int z), (4, .int u), (5, .int v)]) ?_ (0, g1332) _ _ _ ⟨(by show (0) ≤ 20; omega), hB⟩ (lv_sub hl [0, 1, 2, 3, 4, 5, 6] rfl)
    rintro ⟨k, g9a⟩ H locs ls ih1333 ⟨hk, hB⟩ hl
    have hl : lv_has ls 8 [(6, .int (nI k)), (0, .ref w), (1, .int x), (2, .int y), (3, .int z), (4, .int u), (5, .int v)] := hl
    have hk : k ≤ 20 := hk
    have hB : Bx B0 D _ [(w, .inr (9, [.int 0, .ref f1330_1, .int (nI ((κ w).2.2.1 + k)), .int (nI f1330_3), .int (nI f1330_4), .int f1330_5, .int f1330_6, .int f1330_7, .ref (κ w).2.2.2, .ref f1330_9, .ref f1330_10, .ref f1330_11, .int (nI f1330_12), .int f1330_13, .int f1330_14, .int f1330_15, .int f1330_16, .ref f1330_17])), (f1330_1, .inl (cs 0, 600, .inl g9a))] [f1330_1, w] _ _ := hB
    refine lv_iload hx hb dX9_append_23 (lv_at hl 0 rfl) ?_
    refine lv_bipush (v := 20) hx hb dX9_append_25 (by decide) ?_
    refine lv_icmp_ge (tgt := 120) hx hb dX9_append_27 (by decide) (fun c1334 => ?_) (fun c1334 => ?_)
    · have c1334 : 20 ≤ k := (nI_leI (a := 20) (b := k) (by omega) (by omega)).mp c1334
      have hk9 : k = 20 := by omega
      subst hk9
      have hB : Bx B0 D _ [(w, .inr (9, [.int 0, .ref f1330_1, .int (nI ((κ w).2.2.1 + 20)), .int (nI f1330_3), .int (nI f1330_4), .int f1330_5, .int f1330_6, .int f1330_7, .ref (κ w).2.2.2, .ref f1330_9, .ref f1330_10, .ref f1330_11, .int (nI f1330_12), .int f1330_13, .int f1330_14, .int f1330_15, .int f1330_16, .ref f1330_17])), (f1330_1, .inl (cs 0, 600, .inl g9a))] [f1330_1, w] _ _ := hB
      refine lv_aload_n hx hb dX9_append_120 rfl (lv_at hl 1 rfl) ?_
      refine va_get (D := D) (ci := 9) (v := .int (nI ((κ w).2.2.1 + 20))) (C := RX9) (T := TX9) (N := 18) hx hb hts iX9_append_9 hown hN.1 hB.1 0 rfl rfl 2 (by decide) (hts _ mX9_append_2) (fun _ h9 => h9) rfl dX9_append_121 ?_
      have hF : Fr B0 [12, 14] κ H0 _ := hF.close hB (fa_c (by simp [t1330_1.2]) (fa_c (by simp [hw.2]) fa_n))
      have hT : WT B0 D cs T (kp κ w ((κ w).2.2.1 + 20) (κ w).2.2.2) _ := hT.closeK w ((κ w).2.2.1 + 20) (κ w).2.2.2 hB (by rw [hw.1]; decide) (by rw [hw.1]; decide) (List.mem_of_getElem? (i := 1) rfl) ⟨⟨1, _, rfl, kp_oth (ne_c t1330_1.1 hw.1 (by decide)) (by rw [hw.1]; decide) (by rw [hw.1]; decide) (ok_23 t1330_1.1 ⟨_, rfl⟩)⟩, ⟨⟨0, _, rfl, kp_ok (ok_10 (k := ((κ w).1, (κ w).2.1, _, _)) hw.1 ⟨_, _, _, _, _, _, _, _, _, _, _, _, _, _, _, _, rfl, (by show ((κ w).2.2.1 + 20) ≤ 600; omega), (by omega), (by omega), (by omega), (t2kp t1330_1), (t2kp t1330_8), (t2kp t1330_9), (by rw [kp_n (ne_c t1330_9.1 hw.1 (by decide))]; exact c1330_sd), (t2kp t1330_10), (t2kp t1330_11), (t2kp t1330_17)⟩)⟩, trivial⟩⟩
      have hL : OkL B0 _ := hB.2.2.2.2.2
      exact en_i hx hb hr hlocks hL rfl (Nat.zero_le _) (Nat.zero_le _) dX9_append_124 ((Or.inr ⟨rfl, by omega, hT, hF⟩))
    · have c1334 : ¬ 20 ≤ k := fun h9 => c1334 ((nI_leI (a := 20) (b := k) (by omega) (by omega)).mpr h9)
      refine lv_iload hx hb dX9_append_30 (lv_at hl 0 rfl) ?_
      refine lv_iconst (v := 4) hx hb dX9_append_32 (by decide) ?_
      refine lv_icmp_ge (tgt := 40) hx hb dX9_append_33 (by decide) (fun c1335 => ?_) (fun c1335 => ?_)
      · have c1335 : 4 ≤ k := (nI_leI (a := 4) (b := k) (by omega) (by omega)).mp c1335
        refine lv_iload hx hb dX9_append_40 (lv_at hl 0 rfl) ?_
        refine lv_bipush (v := 8) hx hb dX9_append_42 (by decide) ?_
        refine lv_icmp_ge (tgt := 51) hx hb dX9_append_44 (by decide) (fun c1336 => ?_) (fun c1336 => ?_)
        · have c1336 : 8 ≤ k := (nI_leI (a := 8) (b := k) (by omega) (by omega)).mp c1336
          refine lv_iload hx hb dX9_append_51 (lv_at hl 0 rfl) ?_
          refine lv_bipush (v := 12) hx hb dX9_append_53 (by decide) ?_
          refine lv_icmp_ge (tgt := 62) hx hb dX9_append_55 (by decide) (fun c1337 => ?_) (fun c1337 => ?_)
          · have c1337 : 12 ≤ k := (nI_leI (a := 12) (b := k) (by omega) (by omega)).mp c1337
            refine lv_iload hx hb dX9_append_62 (lv_at hl 0 rfl) ?_
            refine lv_bipush (v := 16) hx hb dX9_append_64 (by decide) ?_
            refine lv_icmp_ge (tgt := 74) hx hb dX9_append_66 (by decide) (fun c1338 => ?_) (fun c1338 => ?_)
            · have c1338 : 16 ≤ k := (nI_leI (a := 16) (b := k) (by omega) (by omega)).mp c1338
              refine lv_iload hx hb dX9_append_74 (lv_at hl 6 rfl) ?_
              refine lv_istore (lv' := [(7, .int v), (6, .int (nI k)), (0, .ref w), (1, .int x), (2, .int y), (3, .int z), (4, .int u), (5, .int v)]) hx hb dX9_append_76 hl (by decide) rfl (fun ls hl => ?_)
              refine lv_aload_n hx hb dX9_append_78 rfl (lv_at hl 2 rfl) ?_
              refine va_get (D := D) (ci := 9) (v := .ref f1330_1) (C := RX9) (T := TX9) (N := 18) hx hb hts iX9_append_9 hown hN.1 hB.1 0 rfl rfl 1 (by decide) (hts _ mX9_append_3) (fun _ h9 => h9) rfl dX9_append_79 ?_
              refine lv_aload_n hx hb dX9_append_82 rfl (lv_at hl 2 rfl) ?_
              refine va_get (D := D) (ci := 9) (v := .int (nI ((κ w).2.2.1 + k))) (C := RX9) (T := TX9) (N := 18) hx hb hts iX9_append_9 hown hN.1 hB.1 0 rfl rfl 2 (by decide) (hts _ mX9_append_2) (fun _ h9 => h9) rfl dX9_append_83 ?_
              refine lv_iload hx hb dX9_append_86 (lv_at hl 0 rfl) ?_
              refine lv_bipush (v := 24) hx hb dX9_append_88 (by decide) ?_
              refine lv_bipush (v := 8) hx hb dX9_append_90 (by decide) ?_
              refine lv_iload hx hb dX9_append_92 (lv_at hl 1 rfl) ?_
              refine lv_iconst (v := 4) hx hb dX9_append_94 (by decide) ?_
              refine lv_irem hx hb dX9_append_95 (by decide) ?_
              refine tp_i (nI (k % 4)) (nI_rem (a := k) (d := 4) (by omega) (by decide) (by decide)) ?_
              refine lv_imul hx hb dX9_append_96 ?_
              refine tp_i (nI (8 * (k % 4))) (nI_mul 8 (k % 4)) ?_
              refine lv_isub hx hb dX9_append_97 ?_
              refine gn_i (fun x1339 => ?_)
              refine lv_ishr hx hb dX9_append_98 ?_
              refine gn_i (fun x1340 => ?_)
              refine lv_sipush (v := 255) hx hb dX9_append_99 (by decide) ?_
              refine lv_iand hx hb dX9_append_102 ?_
              refine gn_i (fun x1341 => ?_)
              refine b_i hx hb hN hB 1 rfl (vp_in_nI (n := ((κ w).2.2.1 + k)) (N := 600) (by omega) (by omega)) (.inr ⟨rfl, List.mem_of_getElem? (i := 0) rfl⟩) dX9_append_103 (fun H locs hB => ?_)
              rw [(show ((nI ((κ w).2.2.1 + k)) : Int32).toNatClampNeg = ((κ w).2.2.1 + k) from nI_clamp (n := ((κ w).2.2.1 + k)) (by omega))] at hB
              have hB : Bx B0 D _ [(w, .inr (9, [.int 0, .ref f1330_1, .int (nI ((κ w).2.2.1 + k)), .int (nI f1330_3), .int (nI f1330_4), .int f1330_5, .int f1330_6, .int f1330_7, .ref (κ w).2.2.2, .ref f1330_9, .ref f1330_10, .ref f1330_11, .int (nI f1330_12), .int f1330_13, .int f1330_14, .int f1330_15, .int f1330_16, .ref f1330_17])), (f1330_1, .inl (cs 0, 600, .inl (upd g9a ((κ w).2.2.1 + k) x1341)))] [f1330_1, w] _ _ := hB
              generalize (upd g9a ((κ w).2.2.1 + k) x1341) = g1342 at hB
              refine lv_aload_n hx hb dX9_append_104 rfl (lv_at hl 2 rfl) ?_
              refine lv_dup hx hb dX9_append_105 rfl ?_
              refine va_get (D := D) (ci := 9) (v := .int (nI ((κ w).2.2.1 + k))) (C := RX9) (T := TX9) (N := 18) hx hb hts iX9_append_9 hown hN.1 hB.1 0 rfl rfl 2 (by decide) (hts _ mX9_append_2) (fun _ h9 => h9) rfl dX9_append_106 ?_
              refine lv_iconst (v := 1) hx hb dX9_append_109 (by decide) ?_
              refine lv_iadd hx hb dX9_append_110 ?_
              refine tp_i (nI (((κ w).2.2.1 + k) + 1)) (nI_add ((κ w).2.2.1 + k) 1) ?_
              refine b_put (D := D) (ci := 9) (v := .int (nI (((κ w).2.2.1 + k) + 1))) (ty := .int) (C := RX9) (T := TX9) (N := 18) hx hb hts iX9_append_9 tyX9 tyX9_ok nmX9 hown hN hB 0 rfl rfl 2 (by decide) (hts _ mX9_append_2) (fun _ h9 => h9) rfl (by decide +kernel) rfl rfl (Nat.le_of_ble_eq_true rfl) (.inr ⟨rfl, List.mem_of_getElem? (i := 1) rfl⟩) dX9_append_111 (fun H locs hB => ?_)
              have hB : Bx B0 D _ [(w, .inr (9, [.int 0, .ref f1330_1, .int (nI (((κ w).2.2.1 + k) + 1)), .int (nI f1330_3), .int (nI f1330_4), .int f1330_5, .int f1330_6, .int f1330_7, .ref (κ w).2.2.2, .ref f1330_9, .ref f1330_10, .ref f1330_11, .int (nI f1330_12), .int f1330_13, .int f1330_14, .int f1330_15, .int f1330_16, .ref f1330_17])), (f1330_1, .inl (cs 0, 600, .inl g1342))] [f1330_1, w] _ _ := hB
              refine lv_iinc (v := (nI (k + 1))) (lv' := [(6, .int (nI (k + 1))), (7, .int v), (0, .ref w), (1, .int x), (2, .int y), (3, .int z), (4, .int u), (5, .int v)]) hx hb dX9_append_114 hl (k := 1) rfl (nI_add _ 1) (by decide) rfl (fun ls hl => ?_)
              refine lv_goto (tgt := 23) hx hb dX9_append_117 (by decide) ?_
              exact ih1333 ((k + 1), g1342) _ _ _ (by show 20 - ((k + 1)) < 20 - k; omega) ⟨(by show ((k + 1)) ≤ 20; omega), hB⟩ (lv_sub hl [0, 2, 3, 4, 5, 6, 7] rfl)
            · have c1338 : ¬ 16 ≤ k := fun h9 => c1338 ((nI_leI (a := 16) (b := k) (by omega) (by omega)).mpr h9)
              refine lv_iload hx hb dX9_append_69 (lv_at hl 5 rfl) ?_
              refine lv_goto (tgt := 76) hx hb dX9_append_71 (by decide) ?_
              refine lv_istore (lv' := [(7, .int u), (6, .int (nI k)), (0, .ref w), (1, .int x), (2, .int y), (3, .int z), (4, .int u), (5, .int v)]) hx hb dX9_append_76 hl (by decide) rfl (fun ls hl => ?_)
              refine lv_aload_n hx hb dX9_append_78 rfl (lv_at hl 2 rfl) ?_
              refine va_get (D := D) (ci := 9) (v := .ref f1330_1) (C := RX9) (T := TX9) (N := 18) hx hb hts iX9_append_9 hown hN.1 hB.1 0 rfl rfl 1 (by decide) (hts _ mX9_append_3) (fun _ h9 => h9) rfl dX9_append_79 ?_
              refine lv_aload_n hx hb dX9_append_82 rfl (lv_at hl 2 rfl) ?_
              refine va_get (D := D) (ci := 9) (v := .int (nI ((κ w).2.2.1 + k))) (C := RX9) (T := TX9) (N := 18) hx hb hts iX9_append_9 hown hN.1 hB.1 0 rfl rfl 2 (by decide) (hts _ mX9_append_2) (fun _ h9 => h9) rfl dX9_append_83 ?_
              refine lv_iload hx hb dX9_append_86 (lv_at hl 0 rfl) ?_
              refine lv_bipush (v := 24) hx hb dX9_append_88 (by decide) ?_
              refine lv_bipush (v := 8) hx hb dX9_append_90 (by decide) ?_
              refine lv_iload hx hb dX9_append_92 (lv_at hl 1 rfl) ?_
              refine lv_iconst (v := 4) hx hb dX9_append_94 (by decide) ?_
              refine lv_irem hx hb dX9_append_95 (by decide) ?_
              refine tp_i (nI (k % 4)) (nI_rem (a := k) (d := 4) (by omega) (by decide) (by decide)) ?_
              refine lv_imul hx hb dX9_append_96 ?_
              refine tp_i (nI (8 * (k % 4))) (nI_mul 8 (k % 4)) ?_
              refine lv_isub hx hb dX9_append_97 ?_
              refine gn_i (fun x1343 => ?_)
              refine lv_ishr hx hb dX9_append_98 ?_
              refine gn_i (fun x1344 => ?_)
              refine lv_sipush (v := 255) hx hb dX9_append_99 (by decide) ?_
              refine lv_iand hx hb dX9_append_102 ?_
              refine gn_i (fun x1345 => ?_)
              refine b_i hx hb hN hB 1 rfl (vp_in_nI (n := ((κ w).2.2.1 + k)) (N := 600) (by omega) (by omega)) (.inr ⟨rfl, List.mem_of_getElem? (i := 0) rfl⟩) dX9_append_103 (fun H locs hB => ?_)
              rw [(show ((nI ((κ w).2.2.1 + k)) : Int32).toNatClampNeg = ((κ w).2.2.1 + k) from nI_clamp (n := ((κ w).2.2.1 + k)) (by omega))] at hB
              have hB : Bx B0 D _ [(w, .inr (9, [.int 0, .ref f1330_1, .int (nI ((κ w).2.2.1 + k)), .int (nI f1330_3), .int (nI f1330_4), .int f1330_5, .int f1330_6, .int f1330_7, .ref (κ w).2.2.2, .ref f1330_9, .ref f1330_10, .ref f1330_11, .int (nI f1330_12), .int f1330_13, .int f1330_14, .int f1330_15, .int f1330_16, .ref f1330_17])), (f1330_1, .inl (cs 0, 600, .inl (upd g9a ((κ w).2.2.1 + k) x1345)))] [f1330_1, w] _ _ := hB
              generalize (upd g9a ((κ w).2.2.1 + k) x1345) = g1346 at hB
              refine lv_aload_n hx hb dX9_append_104 rfl (lv_at hl 2 rfl) ?_
              refine lv_dup hx hb dX9_append_105 rfl ?_
              refine va_get (D := D) (ci := 9) (v := .int (nI ((κ w).2.2.1 + k))) (C := RX9) (T := TX9) (N := 18) hx hb hts iX9_append_9 hown hN.1 hB.1 0 rfl rfl 2 (by decide) (hts _ mX9_append_2) (fun _ h9 => h9) rfl dX9_append_106 ?_
              refine lv_iconst (v := 1) hx hb dX9_append_109 (by decide) ?_
              refine lv_iadd hx hb dX9_append_110 ?_
              refine tp_i (nI (((κ w).2.2.1 + k) + 1)) (nI_add ((κ w).2.2.1 + k) 1) ?_
              refine b_put (D := D) (ci := 9) (v := .int (nI (((κ w).2.2.1 + k) + 1))) (ty := .int) (C := RX9) (T := TX9) (N := 18) hx hb hts iX9_append_9 tyX9 tyX9_ok nmX9 hown hN hB 0 rfl rfl 2 (by decide) (hts _ mX9_append_2) (fun _ h9 => h9) rfl (by decide +kernel) rfl rfl (Nat.le_of_ble_eq_true rfl) (.inr ⟨rfl, List.mem_of_getElem? (i := 1) rfl⟩) dX9_append_111 (fun H locs hB => ?_)
              have hB : Bx B0 D _ [(w, .inr (9, [.int 0, .ref f1330_1, .int (nI (((κ w).2.2.1 + k) + 1)), .int (nI f1330_3), .int (nI f1330_4), .int f1330_5, .int f1330_6, .int f1330_7, .ref (κ w).2.2.2, .ref f1330_9, .ref f1330_10, .ref f1330_11, .int (nI f1330_12), .int f1330_13, .int f1330_14, .int f1330_15, .int f1330_16, .ref f1330_17])), (f1330_1, .inl (cs 0, 600, .inl g1346))] [f1330_1, w] _ _ := hB
              refine lv_iinc (v := (nI (k + 1))) (lv' := [(6, .int (nI (k + 1))), (7, .int u), (0, .ref w), (1, .int x), (2, .int y), (3, .int z), (4, .int u), (5, .int v)]) hx hb dX9_append_114 hl (k := 1) rfl (nI_add _ 1) (by decide) rfl (fun ls hl => ?_)
              refine lv_goto (tgt := 23) hx hb dX9_append_117 (by decide) ?_
              exact ih1333 ((k + 1), g1346) _ _ _ (by show 20 - ((k + 1)) < 20 - k; omega) ⟨(by show ((k + 1)) ≤ 20; omega), hB⟩ (lv_sub hl [0, 2, 3, 4, 5, 6, 7] rfl)
          · have c1337 : ¬ 12 ≤ k := fun h9 => c1337 ((nI_leI (a := 12) (b := k) (by omega) (by omega)).mpr h9)
            refine lv_iload_n hx hb dX9_append_58 rfl (lv_at hl 4 rfl) ?_
            refine lv_goto (tgt := 76) hx hb dX9_append_59 (by decide) ?_
            refine lv_istore (lv' := [(7, .int z), (6, .int (nI k)), (0, .ref w), (1, .int x), (2, .int y), (3, .int z), (4, .int u), (5, .int v)]) hx hb dX9_append_76 hl (by decide) rfl (fun ls hl => ?_)
            refine lv_aload_n hx hb dX9_append_78 rfl (lv_at hl 2 rfl) ?_
            refine va_get (D := D) (ci := 9) (v := .ref f1330_1) (C := RX9) (T := TX9) (N := 18) hx hb hts iX9_append_9 hown hN.1 hB.1 0 rfl rfl 1 (by decide) (hts _ mX9_append_3) (fun _ h9 => h9) rfl dX9_append_79 ?_
            refine lv_aload_n hx hb dX9_append_82 rfl (lv_at hl 2 rfl) ?_
            refine va_get (D := D) (ci := 9) (v := .int (nI ((κ w).2.2.1 + k))) (C := RX9) (T := TX9) (N := 18) hx hb hts iX9_append_9 hown hN.1 hB.1 0 rfl rfl 2 (by decide) (hts _ mX9_append_2) (fun _ h9 => h9) rfl dX9_append_83 ?_
            refine lv_iload hx hb dX9_append_86 (lv_at hl 0 rfl) ?_
            refine lv_bipush (v := 24) hx hb dX9_append_88 (by decide) ?_
            refine lv_bipush (v := 8) hx hb dX9_append_90 (by decide) ?_
            refine lv_iload hx hb dX9_append_92 (lv_at hl 1 rfl) ?_
            refine lv_iconst (v := 4) hx hb dX9_append_94 (by decide) ?_
            refine lv_irem hx hb dX9_append_95 (by decide) ?_
            refine tp_i (nI (k % 4)) (nI_rem (a := k) (d := 4) (by omega) (by decide) (by decide)) ?_
            refine lv_imul hx hb dX9_append_96 ?_
            refine tp_i (nI (8 * (k % 4))) (nI_mul 8 (k % 4)) ?_
            refine lv_isub hx hb dX9_append_97 ?_
            refine gn_i (fun x1347 => ?_)
            refine lv_ishr hx hb dX9_append_98 ?_
            refine gn_i (fun x1348 => ?_)
            refine lv_sipush (v := 255) hx hb dX9_append_99 (by decide) ?_
            refine lv_iand hx hb dX9_append_102 ?_
            refine gn_i (fun x1349 => ?_)
            refine b_i hx hb hN hB 1 rfl (vp_in_nI (n := ((κ w).2.2.1 + k)) (N := 600) (by omega) (by omega)) (.inr ⟨rfl, List.mem_of_getElem? (i := 0) rfl⟩) dX9_append_103 (fun H locs hB => ?_)
            rw [(show ((nI ((κ w).2.2.1 + k)) : Int32).toNatClampNeg = ((κ w).2.2.1 + k) from nI_clamp (n := ((κ w).2.2.1 + k)) (by omega))] at hB
            have hB : Bx B0 D _ [(w, .inr (9, [.int 0, .ref f1330_1, .int (nI ((κ w).2.2.1 + k)), .int (nI f1330_3), .int (nI f1330_4), .int f1330_5, .int f1330_6, .int f1330_7, .ref (κ w).2.2.2, .ref f1330_9, .ref f1330_10, .ref f1330_11, .int (nI f1330_12), .int f1330_13, .int f1330_14, .int f1330_15, .int f1330_16, .ref f1330_17])), (f1330_1, .inl (cs 0, 600, .inl (upd g9a ((κ w).2.2.1 + k) x1349)))] [f1330_1, w] _ _ := hB
            generalize (upd g9a ((κ w).2.2.1 + k) x1349) = g1350 at hB
            refine lv_aload_n hx hb dX9_append_104 rfl (lv_at hl 2 rfl) ?_
            refine lv_dup hx hb dX9_append_105 rfl ?_
            refine va_get (D := D) (ci := 9) (v := .int (nI ((κ w).2.2.1 + k))) (C := RX9) (T := TX9) (N := 18) hx hb hts iX9_append_9 hown hN.1 hB.1 0 rfl rfl 2 (by decide) (hts _ mX9_append_2) (fun _ h9 => h9) rfl dX9_append_106 ?_
            refine lv_iconst (v := 1) hx hb dX9_append_109 (by decide) ?_
            refine lv_iadd hx hb dX9_append_110 ?_
            refine tp_i (nI (((κ w).2.2.1 + k) + 1)) (nI_add ((κ w).2.2.1 + k) 1) ?_
            refine b_put (D := D) (ci := 9) (v := .int (nI (((κ w).2.2.1 + k) + 1))) (ty := .int) (C := RX9) (T := TX9) (N := 18) hx hb hts iX9_append_9 tyX9 tyX9_ok nmX9 hown hN hB 0 rfl rfl 2 (by decide) (hts _ mX9_append_2) (fun _ h9 => h9) rfl (by decide +kernel) rfl rfl (Nat.le_of_ble_eq_true rfl) (.inr ⟨rfl, List.mem_of_getElem? (i := 1) rfl⟩) dX9_append_111 (fun H locs hB => ?_)
            have hB : Bx B0 D _ [(w, .inr (9, [.int 0, .ref f1330_1, .int (nI (((κ w).2.2.1 + k) + 1)), .int (nI f1330_3), .int (nI f1330_4), .int f1330_5, .int f1330_6, .int f1330_7, .ref (κ w).2.2.2, .ref f1330_9, .ref f1330_10, .ref f1330_11, .int (nI f1330_12), .int f1330_13, .int f1330_14, .int f1330_15, .int f1330_16, .ref f1330_17])), (f1330_1, .inl (cs 0, 600, .inl g1350))] [f1330_1, w] _ _ := hB
            refine lv_iinc (v := (nI (k + 1))) (lv' := [(6, .int (nI (k + 1))), (7, .int z), (0, .ref w), (1, .int x), (2, .int y), (3, .int z), (4, .int u), (5, .int v)]) hx hb dX9_append_114 hl (k := 1) rfl (nI_add _ 1) (by decide) rfl (fun ls hl => ?_)
            refine lv_goto (tgt := 23) hx hb dX9_append_117 (by decide) ?_
            exact ih1333 ((k + 1), g1350) _ _ _ (by show 20 - ((k + 1)) < 20 - k; omega) ⟨(by show ((k + 1)) ≤ 20; omega), hB⟩ (lv_sub hl [0, 2, 3, 4, 5, 6, 7] rfl)
        · have c1336 : ¬ 8 ≤ k := fun h9 => c1336 ((nI_leI (a := 8) (b := k) (by omega) (by omega)).mpr h9)
          refine lv_iload_n hx hb dX9_append_47 rfl (lv_at hl 3 rfl) ?_
          refine lv_goto (tgt := 76) hx hb dX9_append_48 (by decide) ?_
          refine lv_istore (lv' := [(7, .int y), (6, .int (nI k)), (0, .ref w), (1, .int x), (2, .int y), (3, .int z), (4, .int u), (5, .int v)]) hx hb dX9_append_76 hl (by decide) rfl (fun ls hl => ?_)
          refine lv_aload_n hx hb dX9_append_78 rfl (lv_at hl 2 rfl) ?_
          refine va_get (D := D) (ci := 9) (v := .ref f1330_1) (C := RX9) (T := TX9) (N := 18) hx hb hts iX9_append_9 hown hN.1 hB.1 0 rfl rfl 1 (by decide) (hts _ mX9_append_3) (fun _ h9 => h9) rfl dX9_append_79 ?_
          refine lv_aload_n hx hb dX9_append_82 rfl (lv_at hl 2 rfl) ?_
          refine va_get (D := D) (ci := 9) (v := .int (nI ((κ w).2.2.1 + k))) (C := RX9) (T := TX9) (N := 18) hx hb hts iX9_append_9 hown hN.1 hB.1 0 rfl rfl 2 (by decide) (hts _ mX9_append_2) (fun _ h9 => h9) rfl dX9_append_83 ?_
          refine lv_iload hx hb dX9_append_86 (lv_at hl 0 rfl) ?_
          refine lv_bipush (v := 24) hx hb dX9_append_88 (by decide) ?_
          refine lv_bipush (v := 8) hx hb dX9_append_90 (by decide) ?_
          refine lv_iload hx hb dX9_append_92 (lv_at hl 1 rfl) ?_
          refine lv_iconst (v := 4) hx hb dX9_append_94 (by decide) ?_
          refine lv_irem hx hb dX9_append_95 (by decide) ?_
          refine tp_i (nI (k % 4)) (nI_rem (a := k) (d := 4) (by omega) (by decide) (by decide)) ?_
          refine lv_imul hx hb dX9_append_96 ?_
          refine tp_i (nI (8 * (k % 4))) (nI_mul 8 (k % 4)) ?_
          refine lv_isub hx hb dX9_append_97 ?_
          refine gn_i (fun x1351 => ?_)
          refine lv_ishr hx hb dX9_append_98 ?_
          refine gn_i (fun x1352 => ?_)
          refine lv_sipush (v := 255) hx hb dX9_append_99 (by decide) ?_
          refine lv_iand hx hb dX9_append_102 ?_
          refine gn_i (fun x1353 => ?_)
          refine b_i hx hb hN hB 1 rfl (vp_in_nI (n := ((κ w).2.2.1 + k)) (N := 600) (by omega) (by omega)) (.inr ⟨rfl, List.mem_of_getElem? (i := 0) rfl⟩) dX9_append_103 (fun H locs hB => ?_)
          rw [(show ((nI ((κ w).2.2.1 + k)) : Int32).toNatClampNeg = ((κ w).2.2.1 + k) from nI_clamp (n := ((κ w).2.2.1 + k)) (by omega))] at hB
          have hB : Bx B0 D _ [(w, .inr (9, [.int 0, .ref f1330_1, .int (nI ((κ w).2.2.1 + k)), .int (nI f1330_3), .int (nI f1330_4), .int f1330_5, .int f1330_6, .int f1330_7, .ref (κ w).2.2.2, .ref f1330_9, .ref f1330_10, .ref f1330_11, .int (nI f1330_12), .int f1330_13, .int f1330_14, .int f1330_15, .int f1330_16, .ref f1330_17])), (f1330_1, .inl (cs 0, 600, .inl (upd g9a ((κ w).2.2.1 + k) x1353)))] [f1330_1, w] _ _ := hB
          generalize (upd g9a ((κ w).2.2.1 + k) x1353) = g1354 at hB
          refine lv_aload_n hx hb dX9_append_104 rfl (lv_at hl 2 rfl) ?_
          refine lv_dup hx hb dX9_append_105 rfl ?_
          refine va_get (D := D) (ci := 9) (v := .int (nI ((κ w).2.2.1 + k))) (C := RX9) (T := TX9) (N := 18) hx hb hts iX9_append_9 hown hN.1 hB.1 0 rfl rfl 2 (by decide) (hts _ mX9_append_2) (fun _ h9 => h9) rfl dX9_append_106 ?_
          refine lv_iconst (v := 1) hx hb dX9_append_109 (by decide) ?_
          refine lv_iadd hx hb dX9_append_110 ?_
          refine tp_i (nI (((κ w).2.2.1 + k) + 1)) (nI_add ((κ w).2.2.1 + k) 1) ?_
          refine b_put (D := D) (ci := 9) (v := .int (nI (((κ w).2.2.1 + k) + 1))) (ty := .int) (C := RX9) (T := TX9) (N := 18) hx hb hts iX9_append_9 tyX9 tyX9_ok nmX9 hown hN hB 0 rfl rfl 2 (by decide) (hts _ mX9_append_2) (fun _ h9 => h9) rfl (by decide +kernel) rfl rfl (Nat.le_of_ble_eq_true rfl) (.inr ⟨rfl, List.mem_of_getElem? (i := 1) rfl⟩) dX9_append_111 (fun H locs hB => ?_)
          have hB : Bx B0 D _ [(w, .inr (9, [.int 0, .ref f1330_1, .int (nI (((κ w).2.2.1 + k) + 1)), .int (nI f1330_3), .int (nI f1330_4), .int f1330_5, .int f1330_6, .int f1330_7, .ref (κ w).2.2.2, .ref f1330_9, .ref f1330_10, .ref f1330_11, .int (nI f1330_12), .int f1330_13, .int f1330_14, .int f1330_15, .int f1330_16, .ref f1330_17])), (f1330_1, .inl (cs 0, 600, .inl g1354))] [f1330_1, w] _ _ := hB
          refine lv_iinc (v := (nI (k + 1))) (lv' := [(6, .int (nI (k + 1))), (7, .int y), (0, .ref w), (1, .int x), (2, .int y), (3, .int z), (4, .int u), (5, .int v)]) hx hb dX9_append_114 hl (k := 1) rfl (nI_add _ 1) (by decide) rfl (fun ls hl => ?_)
          refine lv_goto (tgt := 23) hx hb dX9_append_117 (by decide) ?_
          exact ih1333 ((k + 1), g1354) _ _ _ (by show 20 - ((k + 1)) < 20 - k; omega) ⟨(by show ((k + 1)) ≤ 20; omega), hB⟩ (lv_sub hl [0, 2, 3, 4, 5, 6, 7] rfl)
      · have c1335 : ¬ 4 ≤ k := fun h9 => c1335 ((nI_leI (a := 4) (b := k) (by omega) (by omega)).mpr h9)
        refine lv_iload_n hx hb dX9_append_36 rfl (lv_at hl 2 rfl) ?_
        refine lv_goto (tgt := 76) hx hb dX9_append_37 (by decide) ?_
        refine lv_istore (lv' := [(7, .int x), (6, .int (nI k)), (0, .ref w), (1, .int x), (2, .int y), (3, .int z), (4, .int u), (5, .int v)]) hx hb dX9_append_76 hl (by decide) rfl (fun ls hl => ?_)
        refine lv_aload_n hx hb dX9_append_78 rfl (lv_at hl 2 rfl) ?_
        refine va_get (D := D) (ci := 9) (v := .ref f1330_1) (C := RX9) (T := TX9) (N := 18) hx hb hts iX9_append_9 hown hN.1 hB.1 0 rfl rfl 1 (by decide) (hts _ mX9_append_3) (fun _ h9 => h9) rfl dX9_append_79 ?_
        refine lv_aload_n hx hb dX9_append_82 rfl (lv_at hl 2 rfl) ?_
        refine va_get (D := D) (ci := 9) (v := .int (nI ((κ w).2.2.1 + k))) (C := RX9) (T := TX9) (N := 18) hx hb hts iX9_append_9 hown hN.1 hB.1 0 rfl rfl 2 (by decide) (hts _ mX9_append_2) (fun _ h9 => h9) rfl dX9_append_83 ?_
        refine lv_iload hx hb dX9_append_86 (lv_at hl 0 rfl) ?_
        refine lv_bipush (v := 24) hx hb dX9_append_88 (by decide) ?_
        refine lv_bipush (v := 8) hx hb dX9_append_90 (by decide) ?_
        refine lv_iload hx hb dX9_append_92 (lv_at hl 1 rfl) ?_
        refine lv_iconst (v := 4) hx hb dX9_append_94 (by decide) ?_
        refine lv_irem hx hb dX9_append_95 (by decide) ?_
        refine tp_i (nI (k % 4)) (nI_rem (a := k) (d := 4) (by omega) (by decide) (by decide)) ?_
        refine lv_imul hx hb dX9_append_96 ?_
        refine tp_i (nI (8 * (k % 4))) (nI_mul 8 (k % 4)) ?_
        refine lv_isub hx hb dX9_append_97 ?_
        refine gn_i (fun x1355 => ?_)
        refine lv_ishr hx hb dX9_append_98 ?_
        refine gn_i (fun x1356 => ?_)
        refine lv_sipush (v := 255) hx hb dX9_append_99 (by decide) ?_
        refine lv_iand hx hb dX9_append_102 ?_
        refine gn_i (fun x1357 => ?_)
        refine b_i hx hb hN hB 1 rfl (vp_in_nI (n := ((κ w).2.2.1 + k)) (N := 600) (by omega) (by omega)) (.inr ⟨rfl, List.mem_of_getElem? (i := 0) rfl⟩) dX9_append_103 (fun H locs hB => ?_)
        rw [(show ((nI ((κ w).2.2.1 + k)) : Int32).toNatClampNeg = ((κ w).2.2.1 + k) from nI_clamp (n := ((κ w).2.2.1 + k)) (by omega))] at hB
        have hB : Bx B0 D _ [(w, .inr (9, [.int 0, .ref f1330_1, .int (nI ((κ w).2.2.1 + k)), .int (nI f1330_3), .int (nI f1330_4), .int f1330_5, .int f1330_6, .int f1330_7, .ref (κ w).2.2.2, .ref f1330_9, .ref f1330_10, .ref f1330_11, .int (nI f1330_12), .int f1330_13, .int f1330_14, .int f1330_15, .int f1330_16, .ref f1330_17])), (f1330_1, .inl (cs 0, 600, .inl (upd g9a ((κ w).2.2.1 + k) x1357)))] [f1330_1, w] _ _ := hB
        generalize (upd g9a ((κ w).2.2.1 + k) x1357) = g1358 at hB
        refine lv_aload_n hx hb dX9_append_104 rfl (lv_at hl 2 rfl) ?_
        refine lv_dup hx hb dX9_append_105 rfl ?_
        refine va_get (D := D) (ci := 9) (v := .int (nI ((κ w).2.2.1 + k))) (C := RX9) (T := TX9) (N := 18) hx hb hts iX9_append_9 hown hN.1 hB.1 0 rfl rfl 2 (by decide) (hts _ mX9_append_2) (fun _ h9 => h9) rfl dX9_append_106 ?_
        refine lv_iconst (v := 1) hx hb dX9_append_109 (by decide) ?_
        refine lv_iadd hx hb dX9_append_110 ?_
        refine tp_i (nI (((κ w).2.2.1 + k) + 1)) (nI_add ((κ w).2.2.1 + k) 1) ?_
        refine b_put (D := D) (ci := 9) (v := .int (nI (((κ w).2.2.1 + k) + 1))) (ty := .int) (C := RX9) (T := TX9) (N := 18) hx hb hts iX9_append_9 tyX9 tyX9_ok nmX9 hown hN hB 0 rfl rfl 2 (by decide) (hts _ mX9_append_2) (fun _ h9 => h9) rfl (by decide +kernel) rfl rfl (Nat.le_of_ble_eq_true rfl) (.inr ⟨rfl, List.mem_of_getElem? (i := 1) rfl⟩) dX9_append_111 (fun H locs hB => ?_)
        have hB : Bx B0 D _ [(w, .inr (9, [.int 0, .ref f1330_1, .int (nI (((κ w).2.2.1 + k) + 1)), .int (nI f1330_3), .int (nI f1330_4), .int f1330_5, .int f1330_6, .int f1330_7, .ref (κ w).2.2.2, .ref f1330_9, .ref f1330_10, .ref f1330_11, .int (nI f1330_12), .int f1330_13, .int f1330_14, .int f1330_15, .int f1330_16, .ref f1330_17])), (f1330_1, .inl (cs 0, 600, .inl g1358))] [f1330_1, w] _ _ := hB
        refine lv_iinc (v := (nI (k + 1))) (lv' := [(6, .int (nI (k + 1))), (7, .int x), (0, .ref w), (1, .int x), (2, .int y), (3, .int z), (4, .int u), (5, .int v)]) hx hb dX9_append_114 hl (k := 1) rfl (nI_add _ 1) (by decide) rfl (fun ls hl => ?_)
        refine lv_goto (tgt := 23) hx hb dX9_append_117 (by decide) ?_
        exact ih1333 ((k + 1), g1358) _ _ _ (by show 20 - ((k + 1)) < 20 - k; omega) ⟨(by show ((k + 1)) ≤ 20; omega), hB⟩ (lv_sub hl [0, 2, 3, 4, 5, 6, 7] rfl)
  · have c1331 : ¬ (((κ w).2.2.1) + 20) ≤ 600 := fun h9 => c1331 ((nI_leI (a := (((κ w).2.2.1) + 20)) (b := 600) (by omega) (by omega)).mpr h9)
    refine lv_iconst (v := (-1)) hx hb dX9_append_18 (by decide) ?_
    have hT : WT B0 D cs T κ _ := hT.close hB ⟨⟨0, _, rfl, ok_10 hw.1 ⟨_, _, _, _, _, _, _, _, _, _, _, _, _, _, _, _, rfl, (by omega), (by omega), (by omega), (by omega), t1330_1, t1330_8, t1330_9, c1330_sd, t1330_10, t1330_11, t1330_17⟩⟩, trivial⟩
    have hF : Fr B0 [12, 14] κ H0 _ := hF.close hB (fa_c (by simp [hw.2]) fa_n)
    have hL : OkL B0 _ := hB.2.2.2.2.2
    have hP : va_P D vwCl [(w, .inr (9, [.int 0, .ref f1330_1, .int (nI ((κ w).2.2.1)), .int (nI f1330_3), .int (nI f1330_4), .int f1330_5, .int f1330_6, .int f1330_7, .ref (κ w).2.2.2, .ref f1330_9, .ref f1330_10, .ref f1330_11, .int (nI f1330_12), .int f1330_13, .int f1330_14, .int f1330_15, .int f1330_16, .ref f1330_17]))] _ := hB.1
    exact en_i hx hb hr hlocks hL rfl (Nat.zero_le _) (Nat.zero_le _) dX9_append_19 ((Or.inl ⟨rfl, by omega, hT, hF⟩))
