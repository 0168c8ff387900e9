theorem mX9_messageAt_1 : (.fieldLink RX9 18 "OneBeatModel" "data" "[I" : Cond) ∈ wsX9_messageAt := List.mem_of_getElem? (i := 1) (by decide +kernel)
theorem iX9_messageAt_9 : ∀ w ∈ wsX90, w ∈ wsX9_messageAt := fun w h => List.mem_of_mem_drop (List.mem_of_mem_take ((show wsX90 = (wsX9_messageAt.drop 2).take 18 by decide +kernel) ▸ h))
set_option maxHeartbeats 4000000 in
set_option maxRecDepth 100000 in
theorem c_X9_messageAt {l : Launch} {D : va_G} {cs : Nat → ClassId} {B0 T : Nat} {κ : KM} {H0 : Heap} (hT : WT B0 D cs T κ H0) {w : Nat} (hw : T2 κ w 10 12) {f : Nat → Int32} {nm k : Nat} (hd : va_at D vwCl ((κ w).2.2.2, .inl (cs 0, 45783, .inl f)) H0) (e3 : f 3 = nI nm) (hnm : nm ≤ 7400) (hk : k < nm) : KC l yX9_messageAt wsX9_messageAt 0 0 0 0 D cs B0 H0 [.ref w, .int (nI k)] (Qi (fun r H => H = H0 ∧ ∃ n, n ≤ 7399 ∧ r = nI (1383 + 6 * n))) := by
  refine KC.of cX9_messageAt 7 (some .int) (by decide) rfl (Nat.le_of_ble_eq_true rfl) ?_
  intro p e s m below meth c ls hx hb hr hml hown hts hlocks hin hN hE hH0 hl
  have hown : s.vm.findClass RX9 = some m.cls := hown
  have hl : lv_has ls 7 [(0, .ref w), (1, .int (nI k))] := hl
  have hL : OkL B0 [] := OkL.nil
  obtain ⟨hb1235, e1235, hat1235, hk1235⟩ := hT.o10 hw.1
  obtain ⟨f1235_0, f1235_1, f1235_3, f1235_4, f1235_5, f1235_6, f1235_7, f1235_9, f1235_10, f1235_11, f1235_12, f1235_13, f1235_14, f1235_15, f1235_16, f1235_17, rfl, c1235_2, c1235_3, c1235_4, c1235_12, t1235_1, t1235_8, t1235_9, c1235_sd, t1235_10, t1235_11, t1235_17⟩ := hk1235
  have hP : va_P D vwCl [(w, .inr (9, [.int f1235_0, .ref f1235_1, .int (nI ((κ w).2.2.1)), .int (nI f1235_3), .int (nI f1235_4), .int f1235_5, .int f1235_6, .int f1235_7, .ref (κ w).2.2.2, .ref f1235_9, .ref f1235_10, .ref f1235_11, .int (nI f1235_12), .int f1235_13, .int f1235_14, .int f1235_15, .int f1235_16, .ref f1235_17]))] _ := va_P.cons hat1235 va_P.nil
  have hbD : B0 ≤ (κ w).2.2.2 := (hT.o24 t1235_8.1).1
  have hP : va_P D vwCl [((κ w).2.2.2, .inl (cs 0, 45783, .inl f)), (w, .inr (9, [.int f1235_0, .ref f1235_1, .int (nI ((κ w).2.2.1)), .int (nI f1235_3), .int (nI f1235_4), .int f1235_5, .int f1235_6, .int f1235_7, .ref (κ w).2.2.2, .ref f1235_9, .ref f1235_10, .ref f1235_11, .int (nI f1235_12), .int f1235_13, .int f1235_14, .int f1235_15, .int f1235_16, .ref f1235_17]))] _ := va_P.cons hd hP
  refine lv_iload_n hx hb dX9_messageAt_0 rfl (lv_at hl 1 rfl) ?_
  refine lv_istore_n (lv' := [(2, .int (nI k)), (0, .ref w), (1, .int (nI k))]) hx hb dX9_messageAt_1 rfl hl (by decide) rfl (fun ls hl => ?_)
  refine lv_iconst (v := (-1)) hx hb dX9_messageAt_2 (by decide) ?_
  refine lv_istore_n (lv' := [(3, .int (-1)), (2, .int (nI k)), (0, .ref w), (1, .int (nI k))]) hx hb dX9_messageAt_3 rfl hl (by decide) rfl (fun ls hl => ?_)
  refine lv_aload_n hx hb dX9_messageAt_4 rfl (lv_at hl 2 rfl) ?_
  refine va_get (D := D) (ci := 9) (v := .ref (κ w).2.2.2) (C := RX9) (T := TX9) (N := 18) hx hb hts iX9_messageAt_9 hown hN.1 hP 1 rfl rfl 8 (by decide) (hts _ mX9_messageAt_1) (fun _ h9 => h9) rfl dX9_messageAt_5 ?_
  refine lv_iconst (v := 1) hx hb dX9_messageAt_8 (by decide) ?_
  refine ld_i (v := (f 1)) hx hb hN hP 0 rfl (vp_in_nI (n := 1) (N := 45783) (by omega) (by omega)) (by rw [(show (1 : Int32).toNatClampNeg = 1 from nI_clamp (n := 1) (by omega))]) dX9_messageAt_9 ?_
  refine lv_iconst (v := 1) hx hb dX9_messageAt_10 (by decide) ?_
  refine lv_iadd hx hb dX9_messageAt_11 ?_
  refine lv_istore (lv' := [(4, .int ((f 1) + 1)), (3, .int (-1)), (2, .int (nI k)), (0, .ref w), (1, .int (nI k))]) hx hb dX9_messageAt_12 hl (by decide) rfl (fun ls hl => ?_)
  have hl : lv_has ls 7 [(4, .int (f 1 + 1 + nI 0)), (3, .int (-1)), (2, .int (nI (k - hc f 0 nm))), (0, .ref w), (1, .int (nI k))] := by rw [nI_0, Int32.add_zero, hc_0, Nat.sub_zero]; exact hl
  refine lp_r (B0 := B0) (α := Nat) (nL := 7) (fun a9 => 4294967296 - a9) (fun a9 => (a9 ≤ 4294967296) ∧ (hc f a9 nm ≤ k)) (fun a9 => [(2, .int (nI (k - hc f a9 nm))), (3, .int (-1)), (4, .int (f 1 + 1 + nI a9)), (0, .ref w)]) ?_ 0 _ _ ⟨(by show (0) ≤ 4294967296; omega), (by rw [hc_0]; omega)⟩ hL (lv_sub hl [2, 1, 0, 3] rfl)
  rintro j locs ls ih1236 ⟨hj, hc8⟩ hL hl
  have hl : lv_has ls 7 [(2, .int (nI (k - hc f j nm))), (3, .int (-1)), (4, .int (f 1 + 1 + nI j)), (0, .ref w)] := hl
  have hj : j ≤ 4294967296 := hj
  have hc8 : hc f j nm ≤ k := hc8
  have hj9 : j < 4294967296 := by
    rcases Nat.lt_or_ge j 4294967296 with h9 | h9
    · exact h9
    · have := hc_all (f := f) (n := nm) h9; omega
  refine lv_iload_n hx hb dX9_messageAt_14 rfl (lv_at hl 1 rfl) ?_
  refine lv_iconst (v := (-1)) hx hb dX9_messageAt_15 (by decide) ?_
  refine lv_icmp_ne (tgt := 88) hx hb dX9_messageAt_16 (by decide) (fun c9 => absurd (by decide) c9) (fun _ => ?_)
  refine lv_iconst (v := 0) hx hb dX9_messageAt_19 (by decide) ?_
  refine lv_istore (lv' := [(5, .int 0), (2, .int (nI (k - hc f j nm))), (3, .int (-1)), (4, .int (f 1 + 1 + nI j)), (0, .ref w)]) hx hb dX9_messageAt_20 hl (by decide) rfl (fun ls hl => ?_)
  have hl : lv_has ls 7 [(5, .int 0), (2, .int (nI (k - hc f j nm - hd9 f j 0))), (3, .int (-1)), (4, .int (f 1 + 1 + nI j)), (0, .ref w)] := hl
  refine lp_r (B0 := B0) (α := Nat) (nL := 7) (fun a9 => nm - a9) (fun a9 => (a9 ≤ nm) ∧ (hc f j nm + hd9 f j a9 ≤ k)) (fun a9 => [(5, .int (nI a9)), (2, .int (nI (k - hc f j nm - hd9 f j a9))), (3, .int (-1)), (4, .int (f 1 + 1 + nI j)), (0, .ref w)]) ?_ 0 _ _ ⟨(by show (0) ≤ nm; omega), (by show hc f j nm + 0 ≤ k; omega)⟩ hL (lv_sub hl [0, 1, 2, 3, 4] rfl)
  rintro i locs ls ih1237 ⟨hi, hd8⟩ hL hl
  have hl : lv_has ls 7 [(5, .int (nI i)), (2, .int (nI (k - hc f j nm - hd9 f j i))), (3, .int (-1)), (4, .int (f 1 + 1 + nI j)), (0, .ref w)] := hl
  have hi : i ≤ nm := hi
  have hd8 : hc f j nm + hd9 f j i ≤ k := hd8
  refine lv_iload hx hb dX9_messageAt_22 (lv_at hl 0 rfl) ?_
  refine lv_aload_n hx hb dX9_messageAt_24 rfl (lv_at hl 4 rfl) ?_
  refine va_get (D := D) (ci := 9) (v := .ref (κ w).2.2.2) (C := RX9) (T := TX9) (N := 18) hx hb hts iX9_messageAt_9 hown hN.1 hP 1 rfl rfl 8 (by decide) (hts _ mX9_messageAt_1) (fun _ h9 => h9) rfl dX9_messageAt_25 ?_
  refine lv_iconst (v := 3) hx hb dX9_messageAt_28 (by decide) ?_
  refine ld_i (v := (f 3)) hx hb hN hP 0 rfl (vp_in_nI (n := 3) (N := 45783) (by omega) (by omega)) (by rw [(show (3 : Int32).toNatClampNeg = 3 from nI_clamp (n := 3) (by omega))]) dX9_messageAt_29 ?_
  refine tp_i (nI nm) e3 ?_
  refine lv_icmp_ge (tgt := 82) hx hb dX9_messageAt_30 (by decide) (fun c1238 => ?_) (fun c1238 => ?_)
  · have c1238 : nm ≤ i := (nI_leI (a := nm) (b := i) (by omega) (by omega)).mp c1238
    refine lv_iinc (v := ((f 1 + 1 + nI j) + 1)) (lv' := [(4, .int ((f 1 + 1 + nI j) + 1)), (5, .int (nI i)), (2, .int (nI (k - hc f j nm - hd9 f j i))), (3, .int (-1)), (0, .ref w)]) hx hb dX9_messageAt_82 hl (k := 3) rfl (rfl) (by decide) rfl (fun ls hl => ?_)
    refine lv_goto (tgt := 14) hx hb dX9_messageAt_85 (by decide) ?_
    have g8 : hc f (j + 1) nm = hc f j nm + hd9 f j nm := hc_s
    have hi9 : i = nm := by omega
    rw [hi9] at hd8
    have hl : lv_has ls 7 [(4, .int (f 1 + 1 + nI (j + 1))), (5, .int (nI i)), (2, .int (nI (k - hc f (j + 1) nm))), (3, .int (-1)), (0, .ref w)] := by rw [← nI_1, ← Int32.add_assoc, show k - hc f (j + 1) nm = (k - hc f j nm - hd9 f j i) by rw [hi9]; omega]; exact hl
    exact ih1236 (j + 1) _ _ (by show 4294967296 - ((j + 1)) < 4294967296 - j; omega) ⟨(by show ((j + 1)) ≤ 4294967296; omega), (by show hc f ((j + 1)) nm ≤ k; omega)⟩ hL (lv_sub hl [2, 3, 0, 4] rfl)
  · have c1238 : ¬ nm ≤ i := fun h9 => c1238 ((nI_leI (a := nm) (b := i) (by omega) (by omega)).mpr h9)
    refine lv_iload_n hx hb dX9_messageAt_33 rfl (lv_at hl 2 rfl) ?_
    refine lv_iconst (v := (-1)) hx hb dX9_messageAt_34 (by decide) ?_
    refine lv_icmp_ne (tgt := 82) hx hb dX9_messageAt_35 (by decide) (fun c9 => absurd (by decide) c9) (fun _ => ?_)
    refine lv_sipush (v := 1383) hx hb dX9_messageAt_38 (by decide) ?_
    refine lv_bipush (v := 6) hx hb dX9_messageAt_41 (by decide) ?_
    refine lv_iload hx hb dX9_messageAt_43 (lv_at hl 0 rfl) ?_
    refine lv_imul hx hb dX9_messageAt_45 ?_
    refine tp_i (nI (6 * i)) (nI_mul 6 i) ?_
    refine lv_iadd hx hb dX9_messageAt_46 ?_
    refine tp_i (nI (1383 + (6 * i))) (nI_add 1383 (6 * i)) ?_
    refine lv_istore (lv' := [(6, .int (nI (1383 + (6 * i)))), (5, .int (nI i)), (2, .int (nI (k - hc f j nm - hd9 f j i))), (3, .int (-1)), (4, .int (f 1 + 1 + nI j)), (0, .ref w)]) hx hb dX9_messageAt_47 hl (by decide) rfl (fun ls hl => ?_)
    refine lv_aload_n hx hb dX9_messageAt_49 rfl (lv_at hl 5 rfl) ?_
    refine va_get (D := D) (ci := 9) (v := .ref (κ w).2.2.2) (C := RX9) (T := TX9) (N := 18) hx hb hts iX9_messageAt_9 hown hN.1 hP 1 rfl rfl 8 (by decide) (hts _ mX9_messageAt_1) (fun _ h9 => h9) rfl dX9_messageAt_50 ?_
    refine lv_iload hx hb dX9_messageAt_53 (lv_at hl 0 rfl) ?_
    refine lv_iconst (v := 1) hx hb dX9_messageAt_55 (by decide) ?_
    refine lv_iadd hx hb dX9_messageAt_56 ?_
    refine tp_i (nI ((1383 + (6 * i)) + 1)) (nI_add (1383 + (6 * i)) 1) ?_
    refine ld_i (v := (f ((1383 + (6 * i)) + 1))) hx hb hN hP 0 rfl (vp_in_nI (n := ((1383 + (6 * i)) + 1)) (N := 45783) (by omega) (by omega)) (by rw [(show ((nI ((1383 + (6 * i)) + 1)) : Int32).toNatClampNeg = ((1383 + (6 * i)) + 1) from nI_clamp (n := ((1383 + (6 * i)) + 1)) (by omega))]) dX9_messageAt_57 ?_
    refine lv_iload hx hb dX9_messageAt_58 (lv_at hl 4 rfl) ?_
    refine lv_icmp_eq (tgt := 66) hx hb dX9_messageAt_60 (by decide) (fun c1239 => ?_) (fun c1239 => ?_)
    · have g9 : hd9 f j (i + 1) = hd9 f j i + 1 := hd_y (hx_eq (i := i) (by rw [show 1384 + 6 * i = 1383 + 6 * i + 1 by omega]; exact c1239) hj9)
      refine lv_iload_n hx hb dX9_messageAt_66 rfl (lv_at hl 2 rfl) ?_
      refine lv_if_ne (tgt := 73) hx hb dX9_messageAt_67 (by decide) (fun c1240 => ?_) (fun c1240 => ?_)
      · have c1240 : ¬ (k - hc f j nm - hd9 f j i) = 0 := fun h9 => c1240 ((nI_eq (a := (k - hc f j nm - hd9 f j i)) (b := 0) (by omega) (by omega)).mpr h9)
        refine lv_iinc (v := (nI ((k - hc f j nm - hd9 f j i) - 1))) (lv' := [(2, .int (nI ((k - hc f j nm - hd9 f j i) - 1))), (6, .int (nI (1383 + (6 * i)))), (5, .int (nI i)), (3, .int (-1)), (4, .int (f 1 + 1 + nI j)), (0, .ref w)]) hx hb dX9_messageAt_73 hl (k := 2) rfl (nI_dec1 (by omega)) (by decide) rfl (fun ls hl => ?_)
        refine lv_iinc (v := (nI (i + 1))) (lv' := [(5, .int (nI (i + 1))), (2, .int (nI ((k - hc f j nm - hd9 f j i) - 1))), (6, .int (nI (1383 + (6 * i)))), (3, .int (-1)), (4, .int (f 1 + 1 + nI j)), (0, .ref w)]) hx hb dX9_messageAt_76 hl (k := 2) rfl (nI_add _ 1) (by decide) rfl (fun ls hl => ?_)
        refine lv_goto (tgt := 22) hx hb dX9_messageAt_79 (by decide) ?_
        have hl : lv_has ls 7 [(5, .int (nI (i + 1))), (2, .int (nI (k - hc f j nm - hd9 f j (i + 1)))), (6, .int (nI (1383 + (6 * i)))), (3, .int (-1)), (4, .int (f 1 + 1 + nI j)), (0, .ref w)] := by rw [show k - hc f j nm - hd9 f j (i + 1) = ((k - hc f j nm - hd9 f j i) - 1) by omega]; exact hl
        exact ih1237 (i + 1) _ _ (by show nm - ((i + 1)) < nm - i; omega) ⟨(by show ((i + 1)) ≤ nm; omega), (by show hc f j nm + hd9 f j ((i + 1)) ≤ k; omega)⟩ hL (lv_sub hl [0, 1, 3, 4, 5] rfl)
      · have c1240 : (k - hc f j nm - hd9 f j i) = 0 := (nI_eq (a := (k - hc f j nm - hd9 f j i)) (b := 0) (by omega) (by omega)).mp c1240
        refine lv_iload hx hb dX9_messageAt_70 (lv_at hl 0 rfl) ?_
        refine lv_istore_n (lv' := [(3, .int (nI (1383 + (6 * i)))), (6, .int (nI (1383 + (6 * i)))), (5, .int (nI i)), (2, .int (nI (k - hc f j nm - hd9 f j i))), (4, .int (f 1 + 1 + nI j)), (0, .ref w)]) hx hb dX9_messageAt_72 rfl hl (by decide) rfl (fun ls hl => ?_)
        refine lv_iinc (v := ((nI (k - hc f j nm - hd9 f j i)) + (-1))) (lv' := [(2, .int ((nI (k - hc f j nm - hd9 f j i)) + (-1))), (3, .int (nI (1383 + (6 * i)))), (6, .int (nI (1383 + (6 * i)))), (5, .int (nI i)), (4, .int (f 1 + 1 + nI j)), (0, .ref w)]) hx hb dX9_messageAt_73 hl (k := 3) rfl (rfl) (by decide) rfl (fun ls hl => ?_)
        refine lv_iinc (v := (nI (i + 1))) (lv' := [(5, .int (nI (i + 1))), (2, .int ((nI (k - hc f j nm - hd9 f j i)) + (-1))), (3, .int (nI (1383 + (6 * i)))), (6, .int (nI (1383 + (6 * i)))), (4, .int (f 1 + 1 + nI j)), (0, .ref w)]) hx hb dX9_messageAt_76 hl (k := 3) rfl (nI_add _ 1) (by decide) rfl (fun ls hl => ?_)
        refine lv_goto (tgt := 22) hx hb dX9_messageAt_79 (by decide) ?_
        refine lv_iload hx hb dX9_messageAt_22 (lv_at hl 0 rfl) ?_
        refine lv_aload_n hx hb dX9_messageAt_24 rfl (lv_at hl 5 rfl) ?_
        refine va_get (D := D) (ci := 9) (v := .ref (κ w).2.2.2) (C := RX9) (T := TX9) (N := 18) hx hb hts iX9_messageAt_9 hown hN.1 hP 1 rfl rfl 8 (by decide) (hts _ mX9_messageAt_1) (fun _ h9 => h9) rfl dX9_messageAt_25 ?_
        refine lv_iconst (v := 3) hx hb dX9_messageAt_28 (by decide) ?_
        refine ld_i (v := (f 3)) hx hb hN hP 0 rfl (vp_in_nI (n := 3) (N := 45783) (by omega) (by omega)) (by rw [(show (3 : Int32).toNatClampNeg = 3 from nI_clamp (n := 3) (by omega))]) dX9_messageAt_29 ?_
        refine tp_i (nI nm) e3 ?_
        refine lv_icmp_ge (tgt := 82) hx hb dX9_messageAt_30 (by decide) (fun c1241 => ?_) (fun c1241 => ?_)
        · have c1241 : nm ≤ (i + 1) := (nI_leI (a := nm) (b := (i + 1)) (by omega) (by omega)).mp c1241
          refine lv_iinc (v := ((f 1 + 1 + nI j) + 1)) (lv' := [(4, .int ((f 1 + 1 + nI j) + 1)), (5, .int (nI (i + 1))), (2, .int ((nI (k - hc f j nm - hd9 f j i)) + (-1))), (3, .int (nI (1383 + (6 * i)))), (6, .int (nI (1383 + (6 * i)))), (0, .ref w)]) hx hb dX9_messageAt_82 hl (k := 4) rfl (rfl) (by decide) rfl (fun ls hl => ?_)
          refine lv_goto (tgt := 14) hx hb dX9_messageAt_85 (by decide) ?_
          refine lv_iload_n hx hb dX9_messageAt_14 rfl (lv_at hl 3 rfl) ?_
          refine lv_iconst (v := (-1)) hx hb dX9_messageAt_15 (by decide) ?_
          refine lv_icmp_ne (tgt := 88) hx hb dX9_messageAt_16 (by decide) (fun c1242 => ?_) (fun c1242 => ?_)
          · refine lv_iload_n hx hb dX9_messageAt_88 rfl (lv_at hl 3 rfl) ?_
            exact en_i hx hb hr hlocks hL rfl (Nat.zero_le _) (Nat.zero_le _) dX9_messageAt_89 (⟨rfl, i, by omega, rfl⟩)
          · exact absurd c1242 (nI_nm1 (by omega))
        · have c1241 : ¬ nm ≤ (i + 1) := fun h9 => c1241 ((nI_leI (a := nm) (b := (i + 1)) (by omega) (by omega)).mpr h9)
          refine lv_iload_n hx hb dX9_messageAt_33 rfl (lv_at hl 2 rfl) ?_
          refine lv_iconst (v := (-1)) hx hb dX9_messageAt_34 (by decide) ?_
          refine lv_icmp_ne (tgt := 82) hx hb dX9_messageAt_35 (by decide) (fun c1243 => ?_) (fun c1243 => ?_)
          · refine lv_iinc (v := ((f 1 + 1 + nI j) + 1)) (lv' := [(4, .int ((f 1 + 1 + nI j) + 1)), (5, .int (nI (i + 1))), (2, .int ((nI (k - hc f j nm - hd9 f j i)) + (-1))), (3, .int (nI (1383 + (6 * i)))), (6, .int (nI (1383 + (6 * i)))), (0, .ref w)]) hx hb dX9_messageAt_82 hl (k := 4) rfl (rfl) (by decide) rfl (fun ls hl => ?_)
            refine lv_goto (tgt := 14) hx hb dX9_messageAt_85 (by decide) ?_
            refine lv_iload_n hx hb dX9_messageAt_14 rfl (lv_at hl 3 rfl) ?_
            refine lv_iconst (v := (-1)) hx hb dX9_messageAt_15 (by decide) ?_
            refine lv_icmp_ne (tgt := 88) hx hb dX9_messageAt_16 (by decide) (fun c1244 => ?_) (fun c1244 => ?_)
            · refine lv_iload_n hx hb dX9_messageAt_88 rfl (lv_at hl 3 rfl) ?_
              exact en_i hx hb hr hlocks hL rfl (Nat.zero_le _) (Nat.zero_le _) dX9_messageAt_89 (⟨rfl, i, by omega, rfl⟩)
            · exact absurd c1244 (nI_nm1 (by omega))
          · exact absurd c1243 (nI_nm1 (by omega))
    · have g9 : hd9 f j (i + 1) = hd9 f j i := hd_n (hx_ne (i := i) (fun h8 => c1239 (by rw [show 1383 + 6 * i + 1 = 1384 + 6 * i by omega]; exact h8)))
      refine lv_goto (tgt := 76) hx hb dX9_messageAt_63 (by decide) ?_
      refine lv_iinc (v := (nI (i + 1))) (lv' := [(5, .int (nI (i + 1))), (6, .int (nI (1383 + (6 * i)))), (2, .int (nI (k - hc f j nm - hd9 f j i))), (3, .int (-1)), (4, .int (f 1 + 1 + nI j)), (0, .ref w)]) hx hb dX9_messageAt_76 hl (k := 1) rfl (nI_add _ 1) (by decide) rfl (fun ls hl => ?_)
      refine lv_goto (tgt := 22) hx hb dX9_messageAt_79 (by decide) ?_
      have hl : lv_has ls 7 [(5, .int (nI (i + 1))), (6, .int (nI (1383 + (6 * i)))), (2, .int (nI (k - hc f j nm - hd9 f j (i + 1)))), (3, .int (-1)), (4, .int (f 1 + 1 + nI j)), (0, .ref w)] := by rw [show k - hc f j nm - hd9 f j (i + 1) = (k - hc f j nm - hd9 f j i) by omega]; exact hl
      exact ih1237 (i + 1) _ _ (by show nm - ((i + 1)) < nm - i; omega) ⟨(by show ((i + 1)) ≤ nm; omega), (by show hc f j nm + hd9 f j ((i + 1)) ≤ k; omega)⟩ hL (lv_sub hl [0, 2, 3, 4, 5] rfl)
theorem mX9_message_1 : (.fieldLink RX9 40 "OneBeatModel" "thrown" "I" : Cond) ∈ wsX9_message := List.mem_of_getElem? (i := 1) (by decide +kernel)
theorem iX9_message_9 : ∀ w ∈ wsX90, w ∈ wsX9_message := fun w h => List.mem_of_mem_drop (List.mem_of_mem_take ((show wsX90 = (wsX9_message.drop 19).take 18 by decide +kernel) ▸ h))
theorem mX9_message_2 : (.fieldLink RX9 18 "OneBeatModel" "data" "[I" : Cond) ∈ wsX9_message := List.mem_of_getElem? (i := 2) (by decide +kernel)
theorem hdX9_messageAt_v : yX9_messageAt.cls = RX9 ∧ yX9_messageAt.cls ≠ "java/lang/invoke/MethodHandle" ∧ yX9_messageAt.cls ≠ "java/lang/invoke/VarHandle" ∧ (parseMethodDescriptor yX9_messageAt.desc).map (fun d => d.parameters.length) = some 1 := by decide +kernel
theorem hdX9_toldMessage_v : yX9_toldMessage.cls = RX9 ∧ yX9_toldMessage.cls ≠ "java/lang/invoke/MethodHandle" ∧ yX9_toldMessage.cls ≠ "java/lang/invoke/VarHandle" ∧ (parseMethodDescriptor yX9_toldMessage.desc).map (fun d => d.parameters.length) = some 2 := by decide +kernel
set_option maxHeartbeats 4000000 in
set_option maxRecDepth 100000 in
theorem c_X9_message {l : Launch} {D : va_G} {cs : Nat → ClassId} {B0 T : Nat} {κ : KM} {H0 : Heap} (hT : WT B0 D cs T κ H0) {w : Nat} (hw : T2 κ w 10 12) {x : Int32} {y : Int32} : KC l yX9_message wsX9_message 1 26 0 0 D cs B0 H0 [.ref w, .int x, .int y] (Qi (fun _ H => WT B0 D cs T κ H ∧ Fr B0 [12] κ H0 H)) := by
  refine KC.of cX9_message 3 (some .int) (by decide) rfl (Nat.le_of_ble_eq_true rfl) ?_
  intro p e s m below meth c ls hx hb hr hml hown hts hlocks hin hN hE hH0 hl
  have hown : s.vm.findClass RX9 = some m.cls := hown
  have hl : lv_has ls 3 [(0, .ref w), (1, .int x), (2, .int y)] := hl
  have hL : OkL B0 [] := OkL.nil
  have hF : Fr B0 [12] κ H0 H0 := Fr.rf
  refine lv_aload_n hx hb dX9_message_0 rfl (lv_at hl 0 rfl) ?_
  refine lv_iconst (v := 0) hx hb dX9_message_1 (by decide) ?_
  obtain ⟨hb1245, e1245, hat1245, hk1245⟩ := hT.o10 hw.1
  obtain ⟨f1245_0, f1245_1, f1245_3, f1245_4, f1245_5, f1245_6, f1245_7, f1245_9, f1245_10, f1245_11, f1245_12, f1245_13, f1245_14, f1245_15, f1245_16, f1245_17, rfl, c1245_2, c1245_3, c1245_4, c1245_12, t1245_1, t1245_8, t1245_9, c1245_sd, t1245_10, t1245_11, t1245_17⟩ := hk1245
  have hP : va_P D vwCl [(w, .inr (9, [.int f1245_0, .ref f1245_1, .int (nI ((κ w).2.2.1)), .int (nI f1245_3), .int (nI f1245_4), .int f1245_5, .int f1245_6, .int f1245_7, .ref (κ w).2.2.2, .ref f1245_9, .ref f1245_10, .ref f1245_11, .int (nI f1245_12), .int f1245_13, .int f1245_14, .int f1245_15, .int f1245_16, .ref f1245_17]))] _ := va_P.cons hat1245 va_P.nil
  have hB : Bx B0 D _ [(w, .inr (9, [.int f1245_0, .ref f1245_1, .int (nI ((κ w).2.2.1)), .int (nI f1245_3), .int (nI f1245_4), .int f1245_5, .int f1245_6, .int f1245_7, .ref (κ w).2.2.2, .ref f1245_9, .ref f1245_10, .ref f1245_11, .int (nI f1245_12), .int f1245_13, .int f1245_14, .int f1245_15, .int f1245_16, .ref f1245_17]))] [] _ _ := Bx.of (fun a => (κ a).1) hL hP (fa_c hb1245 fa_n) (by simp only [List.map_cons, List.map_nil, hw.1]; decide)
  refine b_put (D := D) (ci := 9) (v := .int 0) (ty := .int) (C := RX9) (T := TX9) (N := 18) hx hb hts iX9_message_9 tyX9 tyX9_ok nmX9 hown hN hB 0 rfl rfl 0 (by decide) (hts _ mX9_message_1) (fun _ h9 => h9) rfl (by decide +kernel) rfl rfl (Nat.le_of_ble_eq_true rfl) (.inl rfl) dX9_message_2 (fun H locs hB => ?_)
  have hB : Bx B0 D _ [(w, .inr (9, [.int 0, .ref f1245_1, .int (nI ((κ w).2.2.1)), .int (nI f1245_3), .int (nI f1245_4), .int f1245_5, .int f1245_6, .int f1245_7, .ref (κ w).2.2.2, .ref f1245_9, .ref f1245_10, .ref f1245_11, .int (nI f1245_12), .int f1245_13, .int f1245_14, .int f1245_15, .int f1245_16, .ref f1245_17]))] [w] _ _ := hB
  refine lv_aload_n hx hb dX9_message_5 rfl (lv_at hl 0 rfl) ?_
  refine lv_iload_n hx hb dX9_message_6 rfl (lv_at hl 1 rfl) ?_
  refine lv_iconst (v := 0) hx hb dX9_message_7 (by decide) ?_
  refine lv_aload_n hx hb dX9_message_8 rfl (lv_at hl 0 rfl) ?_
  refine va_get (D := D) (ci := 9) (v := .ref (κ w).2.2.2) (C := RX9) (T := TX9) (N := 18) hx hb hts iX9_message_9 hown hN.1 hB.1 0 rfl rfl 8 (by decide) (hts _ mX9_message_2) (fun _ h9 => h9) rfl dX9_message_9 ?_
  refine lv_iconst (v := 3) hx hb dX9_message_12 (by decide) ?_
  obtain ⟨hb1246, e1246, hat1246, hk1246⟩ := hT.o24 t1245_8.1
  obtain ⟨g1246, rfl, q1246⟩ := hk1246
  have hB : Bx B0 D _ [(w, .inr (9, [.int 0, .ref f1245_1, .int (nI ((κ w).2.2.1)), .int (nI f1245_3), .int (nI f1245_4), .int f1245_5, .int f1245_6, .int f1245_7, .ref (κ w).2.2.2, .ref f1245_9, .ref f1245_10, .ref f1245_11, .int (nI f1245_12), .int f1245_13, .int f1245_14, .int f1245_15, .int f1245_16, .ref f1245_17])), ((κ w).2.2.2, .inl (cs 0, 45783, .inl g1246))] [w] _ _ := hB.more hat1246 hb1246 (fa_c (ne_c hw.1 t1245_8.1 (by decide)) fa_n) (fa_c (ne_c hw.1 t1245_8.1 (by decide)) fa_n)
  refine ld_i (v := (g1246 3)) hx hb hN hB.1 1 rfl (vp_in_nI (n := 3) (N := 45783) (by omega) (by omega)) (by rw [(show (3 : Int32).toNatClampNeg = 3 from nI_clamp (n := 3) (by omega))]) dX9_message_13 ?_
  obtain ⟨n1247, hn1247, en1247⟩ := q1246.2.2.2.1
  refine tp_i (nI n1247) en1247 ?_
  refine lv_iconst (v := 1) hx hb dX9_message_14 (by decide) ?_
  refine lv_isub hx hb dX9_message_15 ?_
  have hT : WT B0 D cs T κ _ := hT.close hB ⟨⟨0, _, rfl, ok_10 hw.1 ⟨_, _, _, _, _, _, _, _, _, _, _, _, _, _, _, _, rfl, (by omega), (by omega), (by omega), (by omega), t1245_1, t1245_8, t1245_9, c1245_sd, t1245_10, t1245_11, t1245_17⟩⟩, trivial⟩
  have hF : Fr B0 [12] κ H0 _ := hF.close hB (fa_c (by simp [hw.2]) fa_n)
  have hL : OkL B0 _ := hB.2.2.2.2.2
  have hP : va_P D vwCl [(w, .inr (9, [.int 0, .ref f1245_1, .int (nI ((κ w).2.2.1)), .int (nI f1245_3), .int (nI f1245_4), .int f1245_5, .int f1245_6, .int f1245_7, .ref (κ w).2.2.2, .ref f1245_9, .ref f1245_10, .ref f1245_11, .int (nI f1245_12), .int f1245_13, .int f1245_14, .int f1245_15, .int f1245_16, .ref f1245_17])), ((κ w).2.2.2, .inl (cs 0, 45783, .inl g1246))] _ := hB.1
  refine cs_i (As := [.int x, .int 0, .int ((nI n1247) - 1)]) (rest := [.ref w]) ⟨hx, hb, hml, hown, hts⟩ (c_X9_in hT (x := x) (y := 0) (z := ((nI n1247) - 1))) (va_cwS 3 hts gX9_message_X9_in rfl rfl rfl hdX9_in_o ⟨Nat.le_of_ble_eq_true rfl, Nat.le_of_ble_eq_true rfl⟩) hN hE hL rfl rfl hl.1 (Nat.le_of_ble_eq_true rfl) dX9_message_16 (Nat.zero_le _) (Nat.zero_le _) (fun r1248 H1 locs hL hqr1248 => ?_)
  obtain ⟨h9, hqr1248⟩ := hqr1248; replace h9 := h9.symm; subst h9
  rcases hqr1248 with ⟨rfl, o1249⟩ | ⟨rfl, l1250, g1251⟩
  · refine lv_if_ne (tgt := 26) hx hb dX9_message_19 (by decide) (fun c9 => absurd (by decide) c9) (fun _ => ?_)
    refine lv_iconst (v := 1) hx hb dX9_message_22 (by decide) ?_
    refine lv_goto (tgt := 27) hx hb dX9_message_23 (by decide) ?_
    refine lv_iconst (v := 1) hx hb dX9_message_27 (by decide) ?_
    refine cv_i (As := [.int 1, .int 1]) (rest := []) (b := w) ⟨hx, hb, hml, hown, hts⟩ (c_X9_fails hT (w := w) hw (x := 1) (z := 1) ((by decide))) (cwV 2 hts gX9_message_X9_fails rfl rfl rfl hdX9_fails_v ⟨Nat.le_of_ble_eq_true rfl, Nat.le_of_ble_eq_true rfl⟩) hN hE hL (rcv10 hN hT hw.1) rfl rfl hl.1 (Nat.le_of_ble_eq_true rfl) dX9_message_28 (Nat.zero_le _) (Nat.zero_le _) (fun r1252 H1 locs hL hqr1252 => ?_)
    obtain ⟨hT1, hF1, hqr1252⟩ := hqr1252
    have hP : va_P D vwCl [((κ w).2.2.2, .inl (cs 0, 45783, .inl g1246))] _ := hF1.hP (hP.sub [1] rfl) (fa_c ⟨by rw [t1245_8.1]; decide, by rw [t1245_8.2]; first | decide | (simp; done) | (simp [h15a, h15b, h15c]; done) | (simp; omega)⟩ fa_n)
    have hF := hF.tr (hF1.mono (by simp))
    have hT := hT1
    rcases hqr1252 with rfl | ⟨rfl, e1253⟩
    · refine lv_if_ne (tgt := 56) hx hb dX9_message_31 (by decide) (fun _ => ?_) (fun c9 => absurd c9 (by decide))
      refine lv_iconst (v := 0) hx hb dX9_message_56 (by decide) ?_
      refine lv_goto (tgt := 70) hx hb dX9_message_57 (by decide) ?_
      exact en_i hx hb hr hlocks hL rfl (Nat.zero_le _) (Nat.zero_le _) dX9_message_70 (⟨hT, hF⟩)
    · exact absurd e1253 (by decide)
  · refine lv_if_ne (tgt := 26) hx hb dX9_message_19 (by decide) (fun _ => ?_) (fun c9 => absurd c9 (by decide))
    refine lv_iconst (v := 0) hx hb dX9_message_26 (by decide) ?_
    refine lv_iconst (v := 1) hx hb dX9_message_27 (by decide) ?_
    refine cv_i (As := [.int 0, .int 1]) (rest := []) (b := w) ⟨hx, hb, hml, hown, hts⟩ (c_X9_fails hT (w := w) hw (x := 0) (z := 1) ((by decide))) (cwV 2 hts gX9_message_X9_fails rfl rfl rfl hdX9_fails_v ⟨Nat.le_of_ble_eq_true rfl, Nat.le_of_ble_eq_true rfl⟩) hN hE hL (rcv10 hN hT hw.1) rfl rfl hl.1 (Nat.le_of_ble_eq_true rfl) dX9_message_28 (Nat.zero_le _) (Nat.zero_le _) (fun r1254 H1 locs hL hqr1254 => ?_)
    obtain ⟨hT1, hF1, hqr1254⟩ := hqr1254
    have hP : va_P D vwCl [((κ w).2.2.2, .inl (cs 0, 45783, .inl g1246))] _ := hF1.hP (hP.sub [1] rfl) (fa_c ⟨by rw [t1245_8.1]; decide, by rw [t1245_8.2]; first | decide | (simp; done) | (simp [h15a, h15b, h15c]; done) | (simp; omega)⟩ fa_n)
    have hF := hF.tr (hF1.mono (by simp))
    have hT := hT1
    rcases hqr1254 with rfl | ⟨rfl, e1255⟩
    · refine lv_if_ne (tgt := 56) hx hb dX9_message_31 (by decide) (fun _ => ?_) (fun c9 => absurd c9 (by decide))
      refine lv_iconst (v := 0) hx hb dX9_message_56 (by decide) ?_
      refine lv_goto (tgt := 70) hx hb dX9_message_57 (by decide) ?_
      exact en_i hx hb hr hlocks hL rfl (Nat.zero_le _) (Nat.zero_le _) dX9_message_70 (⟨hT, hF⟩)
    · refine lv_if_ne (tgt := 56) hx hb dX9_message_31 (by decide) (fun c9 => absurd (by decide) c9) (fun _ => ?_)
      obtain ⟨n1256, hn1256, rfl⟩ := rngN (by omega) l1250 g1251
      refine lv_aload_n hx hb dX9_message_34 rfl (lv_at hl 0 rfl) ?_
      refine lv_iload_n hx hb dX9_message_35 rfl (lv_at hl 2 rfl) ?_
      refine lv_iconst (v := 0) hx hb dX9_message_36 (by decide) ?_
      refine lv_iconst (v := 5) hx hb dX9_message_37 (by decide) ?_
      refine cs_i (As := [.int y, .int 0, .int 5]) (rest := [.ref w]) ⟨hx, hb, hml, hown, hts⟩ (c_X9_in hT (x := y) (y := 0) (z := 5)) (va_cwS 3 hts gX9_message_X9_in rfl rfl rfl hdX9_in_o ⟨Nat.le_of_ble_eq_true rfl, Nat.le_of_ble_eq_true rfl⟩) hN hE hL rfl rfl hl.1 (Nat.le_of_ble_eq_true rfl) dX9_message_38 (Nat.zero_le _) (Nat.zero_le _) (fun r1257 H1 locs hL hqr1257 => ?_)
      obtain ⟨h9, hqr1257⟩ := hqr1257; replace h9 := h9.symm; subst h9
      rcases hqr1257 with ⟨rfl, o1258⟩ | ⟨rfl, l1259, g1260⟩
      · refine lv_if_ne (tgt := 48) hx hb dX9_message_41 (by decide) (fun c9 => absurd (by decide) c9) (fun _ => ?_)
        refine lv_iconst (v := 1) hx hb dX9_message_44 (by decide) ?_
        refine lv_goto (tgt := 49) hx hb dX9_message_45 (by decide) ?_
        refine lv_iconst (v := 2) hx hb dX9_message_49 (by decide) ?_
        refine cv_i (As := [.int 1, .int 2]) (rest := []) (b := w) ⟨hx, hb, hml, hown, hts⟩ (c_X9_fails hT (w := w) hw (x := 1) (z := 2) ((by decide))) (cwV 2 hts gX9_message_X9_fails rfl rfl rfl hdX9_fails_v ⟨Nat.le_of_ble_eq_true rfl, Nat.le_of_ble_eq_true rfl⟩) hN hE hL (rcv10 hN hT hw.1) rfl rfl hl.1 (Nat.le_of_ble_eq_true rfl) dX9_message_50 (Nat.zero_le _) (Nat.zero_le _) (fun r1261 H1 locs hL hqr1261 => ?_)
        obtain ⟨hT1, hF1, hqr1261⟩ := hqr1261
        have hP : va_P D vwCl [((κ w).2.2.2, .inl (cs 0, 45783, .inl g1246))] _ := hF1.hP (hP.sub [0] rfl) (fa_c ⟨by rw [t1245_8.1]; decide, by rw [t1245_8.2]; first | decide | (simp; done) | (simp [h15a, h15b, h15c]; done) | (simp; omega)⟩ fa_n)
        have hF := hF.tr (hF1.mono (by simp))
        have hT := hT1
        rcases hqr1261 with rfl | ⟨rfl, e1262⟩
        · refine lv_if_eq (tgt := 60) hx hb dX9_message_53 (by decide) (fun c9 => absurd c9 (by decide)) (fun _ => ?_)
          refine lv_iconst (v := 0) hx hb dX9_message_56 (by decide) ?_
          refine lv_goto (tgt := 70) hx hb dX9_message_57 (by decide) ?_
          exact en_i hx hb hr hlocks hL rfl (Nat.zero_le _) (Nat.zero_le _) dX9_message_70 (⟨hT, hF⟩)
        · exact absurd e1262 (by decide)
      · refine lv_if_ne (tgt := 48) hx hb dX9_message_41 (by decide) (fun _ => ?_) (fun c9 => absurd c9 (by decide))
        refine lv_iconst (v := 0) hx hb dX9_message_48 (by decide) ?_
        refine lv_iconst (v := 2) hx hb dX9_message_49 (by decide) ?_
        refine cv_i (As := [.int 0, .int 2]) (rest := []) (b := w) ⟨hx, hb, hml, hown, hts⟩ (c_X9_fails hT (w := w) hw (x := 0) (z := 2) ((by decide))) (cwV 2 hts gX9_message_X9_fails rfl rfl rfl hdX9_fails_v ⟨Nat.le_of_ble_eq_true rfl, Nat.le_of_ble_eq_true rfl⟩) hN hE hL (rcv10 hN hT hw.1) rfl rfl hl.1 (Nat.le_of_ble_eq_true rfl) dX9_message_50 (Nat.zero_le _) (Nat.zero_le _) (fun r1263 H1 locs hL hqr1263 => ?_)
        obtain ⟨hT1, hF1, hqr1263⟩ := hqr1263
        have hP : va_P D vwCl [((κ w).2.2.2, .inl (cs 0, 45783, .inl g1246))] _ := hF1.hP (hP.sub [0] rfl) (fa_c ⟨by rw [t1245_8.1]; decide, by rw [t1245_8.2]; first | decide | (simp; done) | (simp [h15a, h15b, h15c]; done) | (simp; omega)⟩ fa_n)
        have hF := hF.tr (hF1.mono (by simp))
        have hT := hT1
        rcases hqr1263 with rfl | ⟨rfl, e1264⟩
        · refine lv_if_eq (tgt := 60) hx hb dX9_message_53 (by decide) (fun c9 => absurd c9 (by decide)) (fun _ => ?_)
          refine lv_iconst (v := 0) hx hb dX9_message_56 (by decide) ?_
          refine lv_goto (tgt := 70) hx hb dX9_message_57 (by decide) ?_
          exact en_i hx hb hr hlocks hL rfl (Nat.zero_le _) (Nat.zero_le _) dX9_message_70 (⟨hT, hF⟩)
        · refine lv_if_eq (tgt := 60) hx hb dX9_message_53 (by decide) (fun _ => ?_) (fun c9 => absurd (by decide) c9)
          obtain ⟨n1265, ln1265, hn1265, rfl⟩ := rng (lo := 0) (hi := 5) (by decide) (by decide) l1259 g1260
          refine lv_aload_n hx hb dX9_message_60 rfl (lv_at hl 0 rfl) ?_
          refine lv_aload_n hx hb dX9_message_61 rfl (lv_at hl 0 rfl) ?_
          refine lv_iload_n hx hb dX9_message_62 rfl (lv_at hl 1 rfl) ?_
          refine cv_i (As := [.int (nI n1256)]) (rest := [.ref w]) (b := w) ⟨hx, hb, hml, hown, hts⟩ (c_X9_messageAt hT (w := w) hw (k := n1256) (hP 0 _ rfl) en1247 (by omega) (by omega)) (cwV 1 hts gX9_message_X9_messageAt rfl rfl rfl hdX9_messageAt_v ⟨Nat.le_of_ble_eq_true rfl, Nat.le_of_ble_eq_true rfl⟩) hN hE hL (rcv10 hN hT hw.1) rfl rfl hl.1 (Nat.le_of_ble_eq_true rfl) dX9_message_63 (Nat.zero_le _) (Nat.zero_le _) (fun r1266 H1 locs hL hqr1266 => ?_)
          obtain ⟨h9, hqr1266⟩ := hqr1266; replace h9 := h9.symm; subst h9
          obtain ⟨n1267, h1268, rfl⟩ := hqr1266
          refine lv_iload_n hx hb dX9_message_66 rfl (lv_at hl 2 rfl) ?_
          refine cv_i (As := [.int (nI (1383 + 6 * n1267)), .int (nI n1265)]) (rest := []) (b := w) ⟨hx, hb, hml, hown, hts⟩ (c_X9_toldMessage hT (w := w) hw (n := n1267) (k := n1265) (by first | omega | decide | assumption) (by first | omega | decide | assumption)) (cwV 2 hts gX9_message_X9_toldMessage rfl rfl rfl hdX9_toldMessage_v ⟨Nat.le_of_ble_eq_true rfl, Nat.le_of_ble_eq_true rfl⟩) hN hE hL (rcv10 hN hT hw.1) rfl rfl hl.1 (Nat.le_of_ble_eq_true rfl) dX9_message_67 (Nat.zero_le _) (Nat.zero_le _) (fun r1269 H1 locs hL hqr1269 => ?_)
          obtain rfl := hqr1269.symm
          exact en_i hx hb hr hlocks hL rfl (Nat.zero_le _) (Nat.zero_le _) dX9_message_70 (⟨hT, hF⟩)
theorem mX9_checksum_1 : (.fieldLink RX9 40 "OneBeatModel" "thrown" "I" : Cond) ∈ wsX9_checksum := List.mem_of_getElem? (i := 1) (by decide +kernel)
theorem iX9_checksum_9 : ∀ w ∈ wsX90, w ∈ wsX9_checksum := fun w h => List.mem_of_mem_drop (List.mem_of_mem_take ((show wsX90 = (wsX9_checksum.drop 79).take 18 by decide +kernel) ▸ h))
theorem mX9_checksum_3 : (.fieldLink RX9 18 "OneBeatModel" "data" "[I" : Cond) ∈ wsX9_checksum := List.mem_of_getElem? (i := 3) (by decide +kernel)
theorem mX9_checksum_2 : (.constantLong RX9 305 (31) : Cond) ∈ wsX9_checksum := List.mem_of_getElem? (i := 2) (by decide +kernel)
set_option maxHeartbeats 4000000 in
set_option maxRecDepth 100000 in
theorem c_X9_checksum {l : Launch} {D : va_G} {cs : Nat → ClassId} {B0 T : Nat} {κ : KM} {H0 : Heap} (hT : WT B0 D cs T κ H0) {w : Nat} (hw : T2 κ w 10 12) (hTb : T ≤ 20000000) : KC l yX9_checksum wsX9_checksum 7 152 0 0 D cs B0 H0 [.ref w] (Ql (fun _ H => WT B0 D cs T κ H ∧ Fr B0 [12, 19] κ H0 H)) := by
  refine KC.of cX9_checksum 7 (some .long) (by decide) rfl (Nat.le_of_ble_eq_true rfl) ?_
  intro p e s m below meth c ls hx hb hr hml hown hts hlocks hin hN hE hH0 hl
  have hown : s.vm.findClass RX9 = some m.cls := hown
  have hl : lv_has ls 7 [(0, .ref w)] := hl
  have hL : OkL B0 [] := OkL.nil
  have hF : Fr B0 [12, 19] κ H0 H0 := Fr.rf
  refine lv_aload_n hx hb dX9_checksum_0 rfl (lv_at hl 0 rfl) ?_
  refine lv_iconst (v := 0) hx hb dX9_checksum_1 (by decide) ?_
  obtain ⟨hb1270, e1270, hat1270, hk1270⟩ := hT.o10 hw.1
  obtain ⟨f1270_0, f1270_1, f1270_3, f1270_4, f1270_5, f1270_6, f1270_7, f1270_9, f1270_10, f1270_11, f1270_12, f1270_13, f1270_14, f1270_15, f1270_16, f1270_17, rfl, c1270_2, c1270_3, c1270_4, c1270_12, t1270_1, t1270_8, t1270_9, c1270_sd, t1270_10, t1270_11, t1270_17⟩ := hk1270
  have hP : va_P D vwCl [(w, .inr (9, [.int f1270_0, .ref f1270_1, .int (nI ((κ w).2.2.1)), .int (nI f1270_3), .int (nI f1270_4), .int f1270_5, .int f1270_6, .int f1270_7, .ref (κ w).2.2.2, .ref f1270_9, .ref f1270_10, .ref f1270_11, .int (nI f1270_12), .int f1270_13, .int f1270_14, .int f1270_15, .int f1270_16, .ref f1270_17]))] _ := va_P.cons hat1270 va_P.nil
  have hB : Bx B0 D _ [(w, .inr (9, [.int f1270_0, .ref f1270_1, .int (nI ((κ w).2.2.1)), .int (nI f1270_3), .int (nI f1270_4), .int f1270_5, .int f1270_6, .int f1270_7, .ref (κ w).2.2.2, .ref f1270_9, .ref f1270_10, .ref f1270_11, .int (nI f1270_12), .int f1270_13, .int f1270_14, .int f1270_15, .int f1270_16, .ref f1270_17]))] [] _ _ := Bx.of (fun a => (κ a).1) hL hP (fa_c hb1270 fa_n) (by simp only [List.map_cons, List.map_nil, hw.1]; decide)
  refine b_put (D := D) (ci := 9) (v := .int 0) (ty := .int) (C := RX9) (T := TX9) (N := 18) hx hb hts iX9_checksum_9 tyX9 tyX9_ok nmX9 hown hN hB 0 rfl rfl 0 (by decide) (hts _ mX9_checksum_1) (fun _ h9 => h9) rfl (by decide +kernel) rfl rfl (Nat.le_of_ble_eq_true rfl) (.inl rfl) dX9_checksum_2 (fun H locs hB => ?_)
  have hB : Bx B0 D _ [(w, .inr (9, [.int 0, .ref f1270_1, .int (nI ((κ w).2.2.1)), .int (nI f1270_3), .int (nI f1270_4), .int f1270_5, .int f1270_6, .int f1270_7, .ref (κ w).2.2.2, .ref f1270_9, .ref f1270_10, .ref f1270_11, .int (nI f1270_12), .int f1270_13, .int f1270_14, .int f1270_15, .int f1270_16, .ref f1270_17]))] [w] _ _ := hB
  refine lv_lconst (v := 0) hx hb dX9_checksum_5 (by decide) ?_
  refine lv_lstore_n (lv' := [(1, .long 0), (0, .ref w)]) hx hb dX9_checksum_6 rfl hl (by decide) rfl (fun ls hl => ?_)
  refine lv_iconst (v := 0) hx hb dX9_checksum_7 (by decide) ?_
  refine lv_istore_n (lv' := [(3, .int 0), (1, .long 0), (0, .ref w)]) hx hb dX9_checksum_8 rfl hl (by decide) rfl (fun ls hl => ?_)
  have hT : WT B0 D cs T κ _ := hT.close hB ⟨⟨0, _, rfl, ok_10 hw.1 ⟨_, _, _, _, _, _, _, _, _, _, _, _, _, _, _, _, rfl, (by omega), (by omega), (by omega), (by omega), t1270_1, t1270_8, t1270_9, c1270_sd, t1270_10, t1270_11, t1270_17⟩⟩, trivial⟩
  have hF : Fr B0 [12, 19] κ H0 _ := hF.close hB (fa_c (by simp [hw.2]) fa_n)
  have hL : OkL B0 _ := hB.2.2.2.2.2
  have hP : va_P D vwCl [(w, .inr (9, [.int 0, .ref f1270_1, .int (nI ((κ w).2.2.1)), .int (nI f1270_3), .int (nI f1270_4), .int f1270_5, .int f1270_6, .int f1270_7, .ref (κ w).2.2.2, .ref f1270_9, .ref f1270_10, .ref f1270_11, .int (nI f1270_12), .int f1270_13, .int f1270_14, .int f1270_15, .int f1270_16, .ref f1270_17]))] _ := hB.1
  refine lp_m (α := Nat × Int64) (nL := 7) (fun a9 => 13 - a9.1) (fun a9 H9 l9 => (a9.1 ≤ 13) ∧ (WT B0 D cs T κ H9) ∧ (Fr B0 [12, 19] κ H0 H9) ∧ (OkL B0 l9)) (fun a9 => [(3, .int (nI a9.1)), (1, .long a9.2), (0, .ref w)]) ?_ (0, 0) _ _ _ ⟨(by show (0) ≤ 13; omega), hT, hF, hL⟩ (lv_sub hl [0, 1, 2] rfl)
  rintro ⟨j, y⟩ H locs ls ih1271 ⟨hj, hT, hF, hL⟩ hl
  have hl : lv_has ls 7 [(3, .int (nI j)), (1, .long y), (0, .ref w)] := hl
  have hj : j ≤ 13 := hj
  refine lv_iload_n hx hb dX9_checksum_9 rfl (lv_at hl 0 rfl) ?_
  refine lv_bipush (v := 13) hx hb dX9_checksum_10 (by decide) ?_
  refine lv_icmp_ge (tgt := 34) hx hb dX9_checksum_12 (by decide) (fun c1272 => ?_) (fun c1272 => ?_)
  · have c1272 : 13 ≤ j := (nI_leI (a := 13) (b := j) (by omega) (by omega)).mp c1272
    refine lv_iconst (v := 0) hx hb dX9_checksum_34 (by decide) ?_
    refine lv_istore_n (lv' := [(3, .int 0), (1, .long y), (0, .ref w)]) hx hb dX9_checksum_35 rfl hl (by decide) rfl (fun ls hl => ?_)
    refine lp_r (B0 := B0) (α := Nat × Int64) (nL := 7) (fun a9 => 8 - a9.1) (fun a9 => (a9.1 ≤ 8)) (fun a9 => [(3, .int (nI a9.1)), (1, .long a9.2), (0, .ref w)]) ?_ (0, y) _ _ (by show (0) ≤ 8; omega) hL (lv_sub hl [0, 1, 2] rfl)
    rintro ⟨p, y⟩ locs ls ih1273 hp hL hl
    have hl : lv_has ls 7 [(3, .int (nI p)), (1, .long y), (0, .ref w)] := hl
    have hp : p ≤ 8 := hp
    refine lv_iload_n hx hb dX9_checksum_36 rfl (lv_at hl 0 rfl) ?_
    refine lv_aload_n hx hb dX9_checksum_37 rfl (lv_at hl 2 rfl) ?_
    obtain ⟨hb1274, e1274, hat1274, hk1274⟩ := hT.o10 hw.1
    obtain ⟨f1274_0, f1274_1, f1274_3, f1274_4, f1274_5, f1274_6, f1274_7, f1274_9, f1274_10, f1274_11, f1274_12, f1274_13, f1274_14, f1274_15, f1274_16, f1274_17, rfl, c1274_2, c1274_3, c1274_4, c1274_12, t1274_1, t1274_8, t1274_9, c1274_sd, t1274_10, t1274_11, t1274_17⟩ := hk1274
    have hP : va_P D vwCl [(w, .inr (9, [.int f1274_0, .ref f1274_1, .int (nI ((κ w).2.2.1)), .int (nI f1274_3), .int (nI f1274_4), .int f1274_5, .int f1274_6, .int f1274_7, .ref (κ w).2.2.2, .ref f1274_9, .ref f1274_10, .ref f1274_11, .int (nI f1274_12), .int f1274_13, .int f1274_14, .int f1274_15, .int f1274_16, .ref f1274_17]))] _ := va_P.cons hat1274 va_P.nil
    refine va_get (D := D) (ci := 9) (v := .ref (κ w).2.2.2) (C := RX9) (T := TX9) (N := 18) hx hb hts iX9_checksum_9 hown hN.1 hP 0 rfl rfl 8 (by decide) (hts _ mX9_checksum_3) (fun _ h9 => h9) rfl dX9_checksum_38 ?_
    refine lv_iconst (v := 0) hx hb dX9_checksum_41 (by decide) ?_
    obtain ⟨hb1275, e1275, hat1275, hk1275⟩ := hT.o24 t1274_8.1
    obtain ⟨g1275, rfl, q1275⟩ := hk1275
    have hP : va_P D vwCl [((κ w).2.2.2, .inl (cs 0, 45783, .inl g1275)), (w, .inr (9, [.int f1274_0, .ref f1274_1, .int (nI ((κ w).2.2.1)), .int (nI f1274_3), .int (nI f1274_4), .int f1274_5, .int f1274_6, .int f1274_7, .ref (κ w).2.2.2, .ref f1274_9, .ref f1274_10, .ref f1274_11, .int (nI f1274_12), .int f1274_13, .int f1274_14, .int f1274_15, .int f1274_16, .ref f1274_17]))] _ := va_P.cons hat1275 hP
    refine ld_i (v := (g1275 0)) hx hb hN hP 0 rfl (vp_in_nI (n := 0) (N := 45783) (by omega) (by omega)) (by rw [(show (0 : Int32).toNatClampNeg = 0 from nI_clamp (n := 0) (by omega))]) dX9_checksum_42 ?_
    obtain ⟨n1276, hn1276, en1276⟩ := q1275.1
    refine tp_i (nI n1276) en1276 ?_
    refine lv_icmp_ge (tgt := 83) hx hb dX9_checksum_43 (by decide) (fun c1277 => ?_) (fun c1277 => ?_)
    · have c1277 : n1276 ≤ p := (nI_leI (a := n1276) (b := p) (by omega) (by omega)).mp c1277
      refine lv_aload_n hx hb dX9_checksum_83 rfl (lv_at hl 2 rfl) ?_
      refine va_get (D := D) (ci := 9) (v := .ref (κ w).2.2.2) (C := RX9) (T := TX9) (N := 18) hx hb hts iX9_checksum_9 hown hN.1 hP 1 rfl rfl 8 (by decide) (hts _ mX9_checksum_3) (fun _ h9 => h9) rfl dX9_checksum_84 ?_
      refine lv_iconst (v := 1) hx hb dX9_checksum_87 (by decide) ?_
      refine ld_i (v := (g1275 1)) hx hb hN hP 0 rfl (vp_in_nI (n := 1) (N := 45783) (by omega) (by omega)) (by rw [(show (1 : Int32).toNatClampNeg = 1 from nI_clamp (n := 1) (by omega))]) dX9_checksum_88 ?_
      obtain ⟨n1278, hn1278, en1278⟩ := q1275.2.1
      refine tp_i (nI n1278) en1278 ?_
      refine lv_iconst (v := 1) hx hb dX9_checksum_89 (by decide) ?_
      refine lv_iadd hx hb dX9_checksum_90 ?_
      refine tp_i (nI (n1278 + 1)) (nI_add n1278 1) ?_
      refine lv_istore_n (lv' := [(3, .int (nI (n1278 + 1))), (1, .long y), (0, .ref w)]) hx hb dX9_checksum_91 rfl hl (by decide) rfl (fun ls hl => ?_)
      refine lp_r (B0 := B0) (α := Nat × Int64) (nL := 7) (fun a9 => n1278 + 10 - a9.1) (fun a9 => (a9.1 ≤ n1278 + 10)) (fun a9 => [(3, .int (nI a9.1)), (1, .long a9.2), (0, .ref w)]) ?_ ((n1278 + 1), y) _ _ (by show ((n1278 + 1)) ≤ n1278 + 10; omega) hL (lv_sub hl [0, 1, 2] rfl)
      rintro ⟨t, y⟩ locs ls ih1279 ht hL hl
      have hl : lv_has ls 7 [(3, .int (nI t)), (1, .long y), (0, .ref w)] := hl
      have ht : t ≤ n1278 + 10 := ht
      refine lv_iload_n hx hb dX9_checksum_92 rfl (lv_at hl 0 rfl) ?_
      refine lv_aload_n hx hb dX9_checksum_93 rfl (lv_at hl 2 rfl) ?_
      refine va_get (D := D) (ci := 9) (v := .ref (κ w).2.2.2) (C := RX9) (T := TX9) (N := 18) hx hb hts iX9_checksum_9 hown hN.1 hP 1 rfl rfl 8 (by decide) (hts _ mX9_checksum_3) (fun _ h9 => h9) rfl dX9_checksum_94 ?_
      refine lv_iconst (v := 1) hx hb dX9_checksum_97 (by decide) ?_
      refine ld_i (v := (g1275 1)) hx hb hN hP 0 rfl (vp_in_nI (n := 1) (N := 45783) (by omega) (by omega)) (by rw [(show (1 : Int32).toNatClampNeg = 1 from nI_clamp (n := 1) (by omega))]) dX9_checksum_98 ?_
      refine tp_i (nI n1278) en1278 ?_
      refine lv_bipush (v := 9) hx hb dX9_checksum_99 (by decide) ?_
      refine lv_iadd hx hb dX9_checksum_101 ?_
      refine tp_i (nI (n1278 + 9)) (nI_add n1278 9) ?_
      refine lv_icmp_gt (tgt := 187) hx hb dX9_checksum_102 (by decide) (fun c1280 => ?_) (fun c1280 => ?_)
      · have c1280 : (n1278 + 9) < t := (nI_ltI (a := (n1278 + 9)) (b := t) (by omega) (by omega)).mp c1280
        refine lv_aload_n hx hb dX9_checksum_187 rfl (lv_at hl 2 rfl) ?_
        refine va_get (D := D) (ci := 9) (v := .ref (κ w).2.2.2) (C := RX9) (T := TX9) (N := 18) hx hb hts iX9_checksum_9 hown hN.1 hP 1 rfl rfl 8 (by decide) (hts _ mX9_checksum_3) (fun _ h9 => h9) rfl dX9_checksum_188 ?_
        refine lv_bipush (v := 6) hx hb dX9_checksum_191 (by decide) ?_
        refine ld_i (v := (g1275 6)) hx hb hN hP 0 rfl (vp_in_nI (n := 6) (N := 45783) (by omega) (by omega)) (by rw [(show (6 : Int32).toNatClampNeg = 6 from nI_clamp (n := 6) (by omega))]) dX9_checksum_193 ?_
        refine gn_i (fun x1281 => ?_)
        refine lv_if_ne (tgt := 199) hx hb dX9_checksum_194 (by decide) (fun c1282 => ?_) (fun c1282 => ?_)
        · refine lv_iconst (v := 0) hx hb dX9_checksum_199 (by decide) ?_
          refine lv_istore_n (lv' := [(3, .int 0), (1, .long y), (0, .ref w)]) hx hb dX9_checksum_200 rfl hl (by decide) rfl (fun ls hl => ?_)
          refine lp_r (B0 := B0) (α := Nat × Int64) (nL := 7) (fun a9 => 6 - a9.1) (fun a9 => (a9.1 ≤ 6)) (fun a9 => [(3, .int (nI a9.1)), (1, .long a9.2), (0, .ref w)]) ?_ (0, y) _ _ (by show (0) ≤ 6; omega) hL (lv_sub hl [0, 1, 2] rfl)
          rintro ⟨q, u⟩ locs ls ih1283 hq hL hl
          have hl : lv_has ls 7 [(3, .int (nI q)), (1, .long u), (0, .ref w)] := hl
          have hq : q ≤ 6 := hq
          refine lv_iload_n hx hb dX9_checksum_201 rfl (lv_at hl 0 rfl) ?_
          refine lv_bipush (v := 6) hx hb dX9_checksum_202 (by decide) ?_
          refine lv_icmp_ge (tgt := 230) hx hb dX9_checksum_204 (by decide) (fun c1284 => ?_) (fun c1284 => ?_)
          · have c1284 : 6 ≤ q := (nI_leI (a := 6) (b := q) (by omega) (by omega)).mp c1284
            refine lv_ldc2 (v := 31) hx hb hown (hts _ mX9_checksum_2) dX9_checksum_230 ?_
            refine lv_lload_n hx hb dX9_checksum_233 rfl (lv_at hl 1 rfl) ?_
            refine lv_lmul hx hb dX9_checksum_234 ?_
            refine gn_l (fun y1285 => ?_)
            refine lv_aload_n hx hb dX9_checksum_235 rfl (lv_at hl 2 rfl) ?_
            refine cv_i (As := []) (rest := [.long y1285]) (b := w) ⟨hx, hb, hml, hown, hts⟩ (c_X9_spreadNow hT (w := w) hw) (cwV 0 hts gX9_checksum_X9_spreadNow rfl rfl rfl hdX9_spreadNow_v ⟨Nat.le_of_ble_eq_true rfl, Nat.le_of_ble_eq_true rfl⟩) hN hE hL (rcv10 hN hT hw.1) rfl rfl hl.1 (Nat.le_of_ble_eq_true rfl) dX9_checksum_236 (Nat.zero_le _) (Nat.zero_le _) (fun r1286 H1 locs hL hqr1286 => ?_)
            obtain rfl := hqr1286.symm
            refine lv_i2l hx hb dX9_checksum_239 rfl ?_
            refine gn_l (fun y1287 => ?_)
            refine lv_ladd hx hb dX9_checksum_240 ?_
            refine gn_l (fun y1288 => ?_)
            exact en_l hx hb hr hlocks hL (Nat.zero_le _) (Nat.zero_le _) dX9_checksum_241 (⟨hT, hF⟩)
          · have c1284 : ¬ 6 ≤ q := fun h9 => c1284 ((nI_leI (a := 6) (b := q) (by omega) (by omega)).mpr h9)
            refine lv_ldc2 (v := 31) hx hb hown (hts _ mX9_checksum_2) dX9_checksum_207 ?_
            refine lv_lload_n hx hb dX9_checksum_210 rfl (lv_at hl 1 rfl) ?_
            refine lv_lmul hx hb dX9_checksum_211 ?_
            refine gn_l (fun y1289 => ?_)
            refine lv_aload_n hx hb dX9_checksum_212 rfl (lv_at hl 2 rfl) ?_
            refine va_get (D := D) (ci := 9) (v := .ref (κ w).2.2.2) (C := RX9) (T := TX9) (N := 18) hx hb hts iX9_checksum_9 hown hN.1 hP 1 rfl rfl 8 (by decide) (hts _ mX9_checksum_3) (fun _ h9 => h9) rfl dX9_checksum_213 ?_
            refine lv_bipush (v := 15) hx hb dX9_checksum_216 (by decide) ?_
            refine lv_iload_n hx hb dX9_checksum_218 rfl (lv_at hl 0 rfl) ?_
            refine lv_iadd hx hb dX9_checksum_219 ?_
            refine tp_i (nI (15 + q)) (nI_add 15 q) ?_
            refine ld_i (v := (g1275 (15 + q))) hx hb hN hP 0 rfl (vp_in_nI (n := (15 + q)) (N := 45783) (by omega) (by omega)) (by rw [(show ((nI (15 + q)) : Int32).toNatClampNeg = (15 + q) from nI_clamp (n := (15 + q)) (by omega))]) dX9_checksum_220 ?_
            refine gn_i (fun x1290 => ?_)
            refine lv_i2l hx hb dX9_checksum_221 rfl ?_
            refine gn_l (fun y1291 => ?_)
            refine lv_ladd hx hb dX9_checksum_222 ?_
            refine gn_l (fun y1292 => ?_)
            refine lv_lstore_n (lv' := [(1, .long y1292), (3, .int (nI q)), (0, .ref w)]) hx hb dX9_checksum_223 rfl hl (by decide) rfl (fun ls hl => ?_)
            refine lv_iinc (v := (nI (q + 1))) (lv' := [(3, .int (nI (q + 1))), (1, .long y1292), (0, .ref w)]) hx hb dX9_checksum_224 hl (k := 1) rfl (nI_add _ 1) (by decide) rfl (fun ls hl => ?_)
            refine lv_goto (tgt := 201) hx hb dX9_checksum_227 (by decide) ?_
            exact ih1283 ((q + 1), y1292) _ _ (by show 6 - ((q + 1)) < 6 - q; omega) (by show ((q + 1)) ≤ 6; omega) hL (lv_sub hl [0, 1, 2] rfl)
        · refine lv_lload_n hx hb dX9_checksum_197 rfl (lv_at hl 1 rfl) ?_
          exact en_l hx hb hr hlocks hL (Nat.zero_le _) (Nat.zero_le _) dX9_checksum_198 (⟨hT, hF⟩)
      · have c1280 : ¬ (n1278 + 9) < t := fun h9 => c1280 ((nI_ltI (a := (n1278 + 9)) (b := t) (by omega) (by omega)).mpr h9)
        refine lv_iconst (v := 0) hx hb dX9_checksum_105 (by decide) ?_
        refine lv_istore (lv' := [(4, .int 0), (3, .int (nI t)), (1, .long y), (0, .ref w)]) hx hb dX9_checksum_106 hl (by decide) rfl (fun ls hl => ?_)
        refine lp_r (B0 := B0) (α := Nat × Int64) (nL := 7) (fun a9 => 7400 - a9.1) (fun a9 => (a9.1 ≤ 7400)) (fun a9 => [(4, .int (nI a9.1)), (1, .long a9.2), (0, .ref w), (3, .int (nI t))]) ?_ (0, y) _ _ (by show (0) ≤ 7400; omega) hL (lv_sub hl [0, 2, 3, 1] rfl)
        rintro ⟨i, z⟩ locs ls ih1293 hi hL hl
        have hl : lv_has ls 7 [(4, .int (nI i)), (1, .long z), (0, .ref w), (3, .int (nI t))] := hl
        have hi : i ≤ 7400 := hi
        refine lv_iload hx hb dX9_checksum_108 (lv_at hl 0 rfl) ?_
        refine lv_aload_n hx hb dX9_checksum_110 rfl (lv_at hl 2 rfl) ?_
        refine va_get (D := D) (ci := 9) (v := .ref (κ w).2.2.2) (C := RX9) (T := TX9) (N := 18) hx hb hts iX9_checksum_9 hown hN.1 hP 1 rfl rfl 8 (by decide) (hts _ mX9_checksum_3) (fun _ h9 => h9) rfl dX9_checksum_111 ?_
        refine lv_iconst (v := 3) hx hb dX9_checksum_114 (by decide) ?_
        refine ld_i (v := (g1275 3)) hx hb hN hP 0 rfl (vp_in_nI (n := 3) (N := 45783) (by omega) (by omega)) (by rw [(show (3 : Int32).toNatClampNeg = 3 from nI_clamp (n := 3) (by omega))]) dX9_checksum_115 ?_
        obtain ⟨n1294, hn1294, en1294⟩ := q1275.2.2.2.1
        refine tp_i (nI n1294) en1294 ?_
        refine lv_icmp_ge (tgt := 181) hx hb dX9_checksum_116 (by decide) (fun c1295 => ?_) (fun c1295 => ?_)
        · have c1295 : n1294 ≤ i := (nI_leI (a := n1294) (b := i) (by omega) (by omega)).mp c1295
          refine lv_iinc (v := (nI (t + 1))) (lv' := [(3, .int (nI (t + 1))), (4, .int (nI i)), (1, .long z), (0, .ref w)]) hx hb dX9_checksum_181 hl (k := 3) rfl (nI_add _ 1) (by decide) rfl (fun ls hl => ?_)
          refine lv_goto (tgt := 92) hx hb dX9_checksum_184 (by decide) ?_
          exact ih1279 ((t + 1), z) _ _ (by show n1278 + 10 - ((t + 1)) < n1278 + 10 - t; omega) (by show ((t + 1)) ≤ n1278 + 10; omega) hL (lv_sub hl [0, 2, 3] rfl)
        · have c1295 : ¬ n1294 ≤ i := fun h9 => c1295 ((nI_leI (a := n1294) (b := i) (by omega) (by omega)).mpr h9)
          refine lv_sipush (v := 1383) hx hb dX9_checksum_119 (by decide) ?_
          refine lv_bipush (v := 6) hx hb dX9_checksum_122 (by decide) ?_
          refine lv_iload hx hb dX9_checksum_124 (lv_at hl 0 rfl) ?_
          refine lv_imul hx hb dX9_checksum_126 ?_
          refine tp_i (nI (6 * i)) (nI_mul 6 i) ?_
          refine lv_iadd hx hb dX9_checksum_127 ?_
          refine tp_i (nI (1383 + (6 * i))) (nI_add 1383 (6 * i)) ?_
          refine lv_istore (lv' := [(5, .int (nI (1383 + (6 * i)))), (4, .int (nI i)), (1, .long z), (0, .ref w), (3, .int (nI t))]) hx hb dX9_checksum_128 hl (by decide) rfl (fun ls hl => ?_)
          refine lv_iconst (v := 0) hx hb dX9_checksum_130 (by decide) ?_
          refine lv_istore (lv' := [(6, .int 0), (5, .int (nI (1383 + (6 * i)))), (4, .int (nI i)), (1, .long z), (0, .ref w), (3, .int (nI t))]) hx hb dX9_checksum_131 hl (by decide) rfl (fun ls hl => ?_)
          refine lp_r (B0 := B0) (α := Nat × Int64) (nL := 7) (fun a9 => 6 - a9.1) (fun a9 => (a9.1 ≤ 6)) (fun a9 => [(6, .int (nI a9.1)), (1, .long a9.2), (0, .ref w), (3, .int (nI t)), (4, .int (nI i)), (5, .int (nI (1383 + (6 * i))))]) ?_ (0, z) _ _ (by show (0) ≤ 6; omega) hL (lv_sub hl [0, 3, 4, 5, 2, 1] rfl)
          rintro ⟨q, u⟩ locs ls ih1296 hq hL hl
          have hl : lv_has ls 7 [(6, .int (nI q)), (1, .long u), (0, .ref w), (3, .int (nI t)), (4, .int (nI i)), (5, .int (nI (1383 + (6 * i))))] := hl
          have hq : q ≤ 6 := hq
          refine lv_iload hx hb dX9_checksum_133 (lv_at hl 0 rfl) ?_
          refine lv_bipush (v := 6) hx hb dX9_checksum_135 (by decide) ?_
          refine lv_icmp_ge (tgt := 175) hx hb dX9_checksum_137 (by decide) (fun c1297 => ?_) (fun c1297 => ?_)
          · have c1297 : 6 ≤ q := (nI_leI (a := 6) (b := q) (by omega) (by omega)).mp c1297
            refine lv_iinc (v := (nI (i + 1))) (lv' := [(4, .int (nI (i + 1))), (6, .int (nI q)), (1, .long u), (0, .ref w), (3, .int (nI t)), (5, .int (nI (1383 + (6 * i))))]) hx hb dX9_checksum_175 hl (k := 4) rfl (nI_add _ 1) (by decide) rfl (fun ls hl => ?_)
            refine lv_goto (tgt := 108) hx hb dX9_checksum_178 (by decide) ?_
            exact ih1293 ((i + 1), u) _ _ (by show 7400 - ((i + 1)) < 7400 - i; omega) (by show ((i + 1)) ≤ 7400; omega) hL (lv_sub hl [0, 2, 3, 4] rfl)
          · have c1297 : ¬ 6 ≤ q := fun h9 => c1297 ((nI_leI (a := 6) (b := q) (by omega) (by omega)).mpr h9)
            refine lv_aload_n hx hb dX9_checksum_140 rfl (lv_at hl 2 rfl) ?_
            refine va_get (D := D) (ci := 9) (v := .ref (κ w).2.2.2) (C := RX9) (T := TX9) (N := 18) hx hb hts iX9_checksum_9 hown hN.1 hP 1 rfl rfl 8 (by decide) (hts _ mX9_checksum_3) (fun _ h9 => h9) rfl dX9_checksum_141 ?_
            refine lv_iload hx hb dX9_checksum_144 (lv_at hl 5 rfl) ?_
            refine lv_iconst (v := 1) hx hb dX9_checksum_146 (by decide) ?_
            refine lv_iadd hx hb dX9_checksum_147 ?_
            refine tp_i (nI ((1383 + (6 * i)) + 1)) (nI_add (1383 + (6 * i)) 1) ?_
            refine ld_i (v := (g1275 ((1383 + (6 * i)) + 1))) hx hb hN hP 0 rfl (vp_in_nI (n := ((1383 + (6 * i)) + 1)) (N := 45783) (by omega) (by omega)) (by rw [(show ((nI ((1383 + (6 * i)) + 1)) : Int32).toNatClampNeg = ((1383 + (6 * i)) + 1) from nI_clamp (n := ((1383 + (6 * i)) + 1)) (by omega))]) dX9_checksum_148 ?_
            refine gn_i (fun x1298 => ?_)
            refine lv_iload_n hx hb dX9_checksum_149 rfl (lv_at hl 3 rfl) ?_
            refine lv_icmp_ne (tgt := 175) hx hb dX9_checksum_150 (by decide) (fun c1299 => ?_) (fun c1299 => ?_)
            · refine lv_iinc (v := (nI (i + 1))) (lv' := [(4, .int (nI (i + 1))), (6, .int (nI q)), (1, .long u), (0, .ref w), (3, .int (nI t)), (5, .int (nI (1383 + (6 * i))))]) hx hb dX9_checksum_175 hl (k := 4) rfl (nI_add _ 1) (by decide) rfl (fun ls hl => ?_)
              refine lv_goto (tgt := 108) hx hb dX9_checksum_178 (by decide) ?_
              exact ih1293 ((i + 1), u) _ _ (by show 7400 - ((i + 1)) < 7400 - i; omega) (by show ((i + 1)) ≤ 7400; omega) hL (lv_sub hl [0, 2, 3, 4] rfl)
            · refine lv_ldc2 (v := 31) hx hb hown (hts _ mX9_checksum_2) dX9_checksum_153 ?_
              refine lv_lload_n hx hb dX9_checksum_156 rfl (lv_at hl 1 rfl) ?_
              refine lv_lmul hx hb dX9_checksum_157 ?_
              refine gn_l (fun y1300 => ?_)
              refine lv_aload_n hx hb dX9_checksum_158 rfl (lv_at hl 2 rfl) ?_
              refine lv_iload hx hb dX9_checksum_159 (lv_at hl 5 rfl) ?_
              refine lv_iload hx hb dX9_checksum_161 (lv_at hl 0 rfl) ?_
              refine cv_i (As := [.int (nI (1383 + (6 * i))), .int (nI q)]) (rest := [.long y1300]) (b := w) ⟨hx, hb, hml, hown, hts⟩ (c_X9_toldMessage hT (w := w) hw (n := i) (k := q) (by first | omega | decide | assumption) (by first | omega | decide | assumption)) (cwV 2 hts gX9_checksum_X9_toldMessage rfl rfl rfl hdX9_toldMessage_v ⟨Nat.le_of_ble_eq_true rfl, Nat.le_of_ble_eq_true rfl⟩) hN hE hL (rcv10 hN hT hw.1) rfl rfl hl.1 (Nat.le_of_ble_eq_true rfl) dX9_checksum_163 (Nat.zero_le _) (Nat.zero_le _) (fun r1301 H1 locs hL hqr1301 => ?_)
              obtain rfl := hqr1301.symm
              refine lv_i2l hx hb dX9_checksum_166 rfl ?_
              refine gn_l (fun y1302 => ?_)
              refine lv_ladd hx hb dX9_checksum_167 ?_
              refine gn_l (fun y1303 => ?_)
              refine lv_lstore_n (lv' := [(1, .long y1303), (6, .int (nI q)), (0, .ref w), (3, .int (nI t)), (4, .int (nI i)), (5, .int (nI (1383 + (6 * i))))]) hx hb dX9_checksum_168 rfl hl (by decide) rfl (fun ls hl => ?_)
              refine lv_iinc (v := (nI (q + 1))) (lv' := [(6, .int (nI (q + 1))), (1, .long y1303), (0, .ref w), (3, .int (nI t)), (4, .int (nI i)), (5, .int (nI (1383 + (6 * i))))]) hx hb dX9_checksum_169 hl (k := 1) rfl (nI_add _ 1) (by decide) rfl (fun ls hl => ?_)
              refine lv_goto (tgt := 133) hx hb dX9_checksum_172 (by decide) ?_
              exact ih1296 ((q + 1), y1303) _ _ (by show 6 - ((q + 1)) < 6 - q; omega) (by show ((q + 1)) ≤ 6; omega) hL (lv_sub hl [0, 1, 2, 3, 4, 5] rfl)
    · have c1277 : ¬ n1276 ≤ p := fun h9 => c1277 ((nI_leI (a := n1276) (b := p) (by omega) (by omega)).mpr h9)
      refine lv_iconst (v := 0) hx hb dX9_checksum_46 (by decide) ?_
      refine lv_istore (lv' := [(4, .int 0), (3, .int (nI p)), (1, .long y), (0, .ref w)]) hx hb dX9_checksum_47 hl (by decide) rfl (fun ls hl => ?_)
      refine lp_r (B0 := B0) (α := Nat × Int64) (nL := 7) (fun a9 => 10 - a9.1) (fun a9 => (a9.1 ≤ 10)) (fun a9 => [(4, .int (nI a9.1)), (1, .long a9.2), (0, .ref w), (3, .int (nI p))]) ?_ (0, y) _ _ (by show (0) ≤ 10; omega) hL (lv_sub hl [0, 2, 3, 1] rfl)
      rintro ⟨q, z⟩ locs ls ih1304 hq hL hl
      have hl : lv_has ls 7 [(4, .int (nI q)), (1, .long z), (0, .ref w), (3, .int (nI p))] := hl
      have hq : q ≤ 10 := hq
      refine lv_iload hx hb dX9_checksum_49 (lv_at hl 0 rfl) ?_
      refine lv_bipush (v := 10) hx hb dX9_checksum_51 (by decide) ?_
      refine lv_icmp_ge (tgt := 77) hx hb dX9_checksum_53 (by decide) (fun c1305 => ?_) (fun c1305 => ?_)
      · have c1305 : 10 ≤ q := (nI_leI (a := 10) (b := q) (by omega) (by omega)).mp c1305
        refine lv_iinc (v := (nI (p + 1))) (lv' := [(3, .int (nI (p + 1))), (4, .int (nI q)), (1, .long z), (0, .ref w)]) hx hb dX9_checksum_77 hl (k := 3) rfl (nI_add _ 1) (by decide) rfl (fun ls hl => ?_)
        refine lv_goto (tgt := 36) hx hb dX9_checksum_80 (by decide) ?_
        exact ih1273 ((p + 1), z) _ _ (by show 8 - ((p + 1)) < 8 - p; omega) (by show ((p + 1)) ≤ 8; omega) hL (lv_sub hl [0, 2, 3] rfl)
      · have c1305 : ¬ 10 ≤ q := fun h9 => c1305 ((nI_leI (a := 10) (b := q) (by omega) (by omega)).mpr h9)
        refine lv_ldc2 (v := 31) hx hb hown (hts _ mX9_checksum_2) dX9_checksum_56 ?_
        refine lv_lload_n hx hb dX9_checksum_59 rfl (lv_at hl 1 rfl) ?_
        refine lv_lmul hx hb dX9_checksum_60 ?_
        refine gn_l (fun y1306 => ?_)
        refine lv_aload_n hx hb dX9_checksum_61 rfl (lv_at hl 2 rfl) ?_
        refine lv_iload_n hx hb dX9_checksum_62 rfl (lv_at hl 3 rfl) ?_
        refine lv_iload hx hb dX9_checksum_63 (lv_at hl 0 rfl) ?_
        refine cv_i (As := [.int (nI p), .int (nI q)]) (rest := [.long y1306]) (b := w) ⟨hx, hb, hml, hown, hts⟩ (c_X9_toldPlayer hT (w := w) hw (n := p) (y := (nI q)) (by first | omega | decide | assumption)) (cwV 2 hts gX9_checksum_X9_toldPlayer rfl rfl rfl hdX9_toldPlayer_v ⟨Nat.le_of_ble_eq_true rfl, Nat.le_of_ble_eq_true rfl⟩) hN hE hL (rcv10 hN hT hw.1) rfl rfl hl.1 (Nat.le_of_ble_eq_true rfl) dX9_checksum_65 (Nat.zero_le _) (Nat.zero_le _) (fun r1307 H1 locs hL hqr1307 => ?_)
        obtain rfl := hqr1307.symm
        refine lv_i2l hx hb dX9_checksum_68 rfl ?_
        refine gn_l (fun y1308 => ?_)
        refine lv_ladd hx hb dX9_checksum_69 ?_
        refine gn_l (fun y1309 => ?_)
        refine lv_lstore_n (lv' := [(1, .long y1309), (4, .int (nI q)), (0, .ref w), (3, .int (nI p))]) hx hb dX9_checksum_70 rfl hl (by decide) rfl (fun ls hl => ?_)
        refine lv_iinc (v := (nI (q + 1))) (lv' := [(4, .int (nI (q + 1))), (1, .long y1309), (0, .ref w), (3, .int (nI p))]) hx hb dX9_checksum_71 hl (k := 1) rfl (nI_add _ 1) (by decide) rfl (fun ls hl => ?_)
        refine lv_goto (tgt := 49) hx hb dX9_checksum_74 (by decide) ?_
        exact ih1304 ((q + 1), y1309) _ _ (by show 10 - ((q + 1)) < 10 - q; omega) (by show ((q + 1)) ≤ 10; omega) hL (lv_sub hl [0, 1, 2, 3] rfl)
  · have c1272 : ¬ 13 ≤ j := fun h9 => c1272 ((nI_leI (a := 13) (b := j) (by omega) (by omega)).mpr h9)
    refine lv_ldc2 (v := 31) hx hb hown (hts _ mX9_checksum_2) dX9_checksum_15 ?_
    refine lv_lload_n hx hb dX9_checksum_18 rfl (lv_at hl 1 rfl) ?_
    refine lv_lmul hx hb dX9_checksum_19 ?_
    refine gn_l (fun y1310 => ?_)
    refine lv_aload_n hx hb dX9_checksum_20 rfl (lv_at hl 2 rfl) ?_
    refine lv_iload_n hx hb dX9_checksum_21 rfl (lv_at hl 0 rfl) ?_
    refine cv_i (As := [.int (nI j)]) (rest := [.long y1310]) (b := w) ⟨hx, hb, hml, hown, hts⟩ (c_X9_told hT (w := w) hw (n := j) (by first | omega | decide | assumption)) (cwV 1 hts gX9_checksum_X9_told rfl rfl rfl hdX9_told_v ⟨Nat.le_of_ble_eq_true rfl, Nat.le_of_ble_eq_true rfl⟩) hN hE hL (rcv10 hN hT hw.1) rfl rfl hl.1 (Nat.le_of_ble_eq_true rfl) dX9_checksum_22 (Nat.zero_le _) (Nat.zero_le _) (fun r1311 H1 locs hL hqr1311 => ?_)
    obtain ⟨hT1, hF1⟩ := hqr1311
    have hF := hF.tr (hF1.mono (by simp))
    have hT := hT1
    refine lv_i2l hx hb dX9_checksum_25 rfl ?_
    refine gn_l (fun y1312 => ?_)
    refine lv_ladd hx hb dX9_checksum_26 ?_
    refine gn_l (fun y1313 => ?_)
    refine lv_lstore_n (lv' := [(1, .long y1313), (3, .int (nI j)), (0, .ref w)]) hx hb dX9_checksum_27 rfl hl (by decide) rfl (fun ls hl => ?_)
    refine lv_iinc (v := (nI (j + 1))) (lv' := [(3, .int (nI (j + 1))), (1, .long y1313), (0, .ref w)]) hx hb dX9_checksum_28 hl (k := 1) rfl (nI_add _ 1) (by decide) rfl (fun ls hl => ?_)
    refine lv_goto (tgt := 9) hx hb dX9_checksum_31 (by decide) ?_
    exact ih1271 ((j + 1), y1313) _ _ _ (by show 13 - ((j + 1)) < 13 - j; omega) ⟨(by show ((j + 1)) ≤ 13; omega), hT, hF, hL⟩ (lv_sub hl [0, 1, 2] rfl)
theorem mX9_meanError_1 : (.fieldLink RX9 40 "OneBeatModel" "thrown" "I" : Cond) ∈ wsX9_meanError := List.mem_of_getElem? (i := 1) (by decide +kernel)
theorem iX9_meanError_9 : ∀ w ∈ wsX90, w ∈ wsX9_meanError := fun w h => List.mem_of_mem_drop (List.mem_of_mem_take ((show wsX90 = (wsX9_meanError.drop 35).take 18 by decide +kernel) ▸ h))
theorem mX9_meanError_2 : (.fieldLink RX9 18 "OneBeatModel" "data" "[I" : Cond) ∈ wsX9_meanError := List.mem_of_getElem? (i := 2) (by decide +kernel)
theorem mX9_meanError_3 : (.methodLink RX9 297 Lib.Math.abs.name : Cond) ∈ wsX9_meanError := List.mem_of_getElem? (i := 3) (by decide +kernel)
theorem mX9_meanError_4 : (.static Lib.Math.abs.name : Cond) ∈ wsX9_meanError := List.mem_of_getElem? (i := 4) (by decide +kernel)
theorem mX9_meanError_5 : (.initialized "java/lang/Math" : Cond) ∈ wsX9_meanError := List.mem_of_getElem? (i := 5) (by decide +kernel)
theorem mX9_meanError_6 : (.code Lib.Math.abs.name Lib.Math.abs.code 1 (some .int) : Cond) ∈ wsX9_meanError := List.mem_of_getElem? (i := 6) (by decide +kernel)
set_option maxHeartbeats 4000000 in
set_option maxRecDepth 100000 in
theorem c_X9_meanError {l : Launch} {D : va_G} {cs : Nat → ClassId} {B0 T : Nat} {κ : KM} {H0 : Heap} (hT : WT B0 D cs T κ H0) {w : Nat} (hw : T2 κ w 10 12) : KC l yX9_meanError wsX9_meanError 5 106 0 0 D cs B0 H0 [.ref w] (Qd (fun _ H => WT B0 D cs T κ H ∧ Fr B0 [12] κ H0 H)) := by
  refine KC.of cX9_meanError 4 (some .double) (by decide) rfl (Nat.le_of_ble_eq_true rfl) ?_
  intro p e s m below meth c ls hx hb hr hml hown hts hlocks hin hN hE hH0 hl
  have hown : s.vm.findClass RX9 = some m.cls := hown
  have hl : lv_has ls 4 [(0, .ref w)] := hl
  have hL : OkL B0 [] := OkL.nil
  have hF : Fr B0 [12] κ H0 H0 := Fr.rf
  refine lv_aload_n hx hb dX9_meanError_0 rfl (lv_at hl 0 rfl) ?_
  refine lv_iconst (v := 0) hx hb dX9_meanError_1 (by decide) ?_
  obtain ⟨hb1314, e1314, hat1314, hk1314⟩ := hT.o10 hw.1
  obtain ⟨f1314_0, f1314_1, f1314_3, f1314_4, f1314_5, f1314_6, f1314_7, f1314_9, f1314_10, f1314_11, f1314_12, f1314_13, f1314_14, f1314_15, f1314_16, f1314_17, rfl, c1314_2, c1314_3, c1314_4, c1314_12, t1314_1, t1314_8, t1314_9, c1314_sd, t1314_10, t1314_11, t1314_17⟩ := hk1314
  have hP : va_P D vwCl [(w, .inr (9, [.int f1314_0, .ref f1314_1, .int (nI ((κ w).2.2.1)), .int (nI f1314_3), .int (nI f1314_4), .int f1314_5, .int f1314_6, .int f1314_7, .ref (κ w).2.2.2, .ref f1314_9, .ref f1314_10, .ref f1314_11, .int (nI f1314_12), .int f1314_13, .int f1314_14, .int f1314_15, .int f1314_16, .ref f1314_17]))] _ := va_P.cons hat1314 va_P.nil
  have hB : Bx B0 D _ [(w, .inr (9, [.int f1314_0, .ref f1314_1, .int (nI ((κ w).2.2.1)), .int (nI f1314_3), .int (nI f1314_4), .int f1314_5, .int f1314_6, .int f1314_7, .ref (κ w).2.2.2, .ref f1314_9, .ref f1314_10, .ref f1314_11, .int (nI f1314_12), .int f1314_13, .int f1314_14, .int f1314_15, .int f1314_16, .ref f1314_17]))] [] _ _ := Bx.of (fun a => (κ a).1) hL hP (fa_c hb1314 fa_n) (by simp only [List.map_cons, List.map_nil, hw.1]; decide)
  refine b_put (D := D) (ci := 9) (v := .int 0) (ty := .int) (C := RX9) (T := TX9) (N := 18) hx hb hts iX9_meanError_9 tyX9 tyX9_ok nmX9 hown hN hB 0 rfl rfl 0 (by decide) (hts _ mX9_meanError_1) (fun _ h9 => h9) rfl (by decide +kernel) rfl rfl (Nat.le_of_ble_eq_true rfl) (.inl rfl) dX9_meanError_2 (fun H locs hB => ?_)
  have hB : Bx B0 D _ [(w, .inr (9, [.int 0, .ref f1314_1, .int (nI ((κ w).2.2.1)), .int (nI f1314_3), .int (nI f1314_4), .int f1314_5, .int f1314_6, .int f1314_7, .ref (κ w).2.2.2, .ref f1314_9, .ref f1314_10, .ref f1314_11, .int (nI f1314_12), .int f1314_13, .int f1314_14, .int f1314_15, .int f1314_16, .ref f1314_17]))] [w] _ _ := hB
  refine lv_iconst (v := 0) hx hb dX9_meanError_5 (by decide) ?_
  refine lv_istore_n (lv' := [(1, .int 0), (0, .ref w)]) hx hb dX9_meanError_6 rfl hl (by decide) rfl (fun ls hl => ?_)
  refine lv_aload_n hx hb dX9_meanError_7 rfl (lv_at hl 1 rfl) ?_
  have hT : WT B0 D cs T κ _ := hT.close hB ⟨⟨0, _, rfl, ok_10 hw.1 ⟨_, _, _, _, _, _, _, _, _, _, _, _, _, _, _, _, rfl, (by omega), (by omega), (by omega), (by omega), t1314_1, t1314_8, t1314_9, c1314_sd, t1314_10, t1314_11, t1314_17⟩⟩, trivial⟩
  have hF : Fr B0 [12] κ H0 _ := hF.close hB (fa_c (by simp [hw.2]) fa_n)
  have hL : OkL B0 _ := hB.2.2.2.2.2
  have hP : va_P D vwCl [(w, .inr (9, [.int 0, .ref f1314_1, .int (nI ((κ w).2.2.1)), .int (nI f1314_3), .int (nI f1314_4), .int f1314_5, .int f1314_6, .int f1314_7, .ref (κ w).2.2.2, .ref f1314_9, .ref f1314_10, .ref f1314_11, .int (nI f1314_12), .int f1314_13, .int f1314_14, .int f1314_15, .int f1314_16, .ref f1314_17]))] _ := hB.1
  refine cv_i (As := []) (rest := []) (b := w) ⟨hx, hb, hml, hown, hts⟩ (c_X9_playersUp hT (w := w) hw) (cwV 0 hts gX9_meanError_X9_playersUp rfl rfl rfl hdX9_playersUp_v ⟨Nat.le_of_ble_eq_true rfl, Nat.le_of_ble_eq_true rfl⟩) hN hE hL (rcv10 hN hT hw.1) rfl rfl hl.1 (Nat.le_of_ble_eq_true rfl) dX9_meanError_8 (Nat.zero_le _) (Nat.zero_le _) (fun r1315 H1 locs hL hqr1315 => ?_)
  obtain rfl := hqr1315.symm
  refine lv_istore_n (lv' := [(2, .int r1315), (1, .int 0), (0, .ref w)]) hx hb dX9_meanError_11 rfl hl (by decide) rfl (fun ls hl => ?_)
  refine lv_iconst (v := 0) hx hb dX9_meanError_12 (by decide) ?_
  refine lv_istore_n (lv' := [(3, .int 0), (2, .int r1315), (1, .int 0), (0, .ref w)]) hx hb dX9_meanError_13 rfl hl (by decide) rfl (fun ls hl => ?_)
  refine lp_r (B0 := B0) (α := Nat × Int32 × Int32) (nL := 4) (fun a9 => 8 - a9.1) (fun a9 => (a9.1 ≤ 8)) (fun a9 => [(3, .int (nI a9.1)), (1, .int a9.2.1), (2, .int a9.2.2), (0, .ref w)]) ?_ (0, 0, r1315) _ _ (by show (0) ≤ 8; omega) hL (lv_sub hl [0, 2, 1, 3] rfl)
  rintro ⟨p, x, z⟩ locs ls ih1316 hp hL hl
  have hl : lv_has ls 4 [(3, .int (nI p)), (1, .int x), (2, .int z), (0, .ref w)] := hl
  have hp : p ≤ 8 := hp
  refine lv_iload_n hx hb dX9_meanError_14 rfl (lv_at hl 0 rfl) ?_
  refine lv_aload_n hx hb dX9_meanError_15 rfl (lv_at hl 3 rfl) ?_
  refine va_get (D := D) (ci := 9) (v := .ref (κ w).2.2.2) (C := RX9) (T := TX9) (N := 18) hx hb hts iX9_meanError_9 hown hN.1 hP 0 rfl rfl 8 (by decide) (hts _ mX9_meanError_2) (fun _ h9 => h9) rfl dX9_meanError_16 ?_
  refine lv_iconst (v := 0) hx hb dX9_meanError_19 (by decide) ?_
  obtain ⟨hb1317, e1317, hat1317, hk1317⟩ := hT.o24 t1314_8.1
  obtain ⟨g1317, rfl, q1317⟩ := hk1317
  have hP : va_P D vwCl [((κ w).2.2.2, .inl (cs 0, 45783, .inl g1317)), (w, .inr (9, [.int 0, .ref f1314_1, .int (nI ((κ w).2.2.1)), .int (nI f1314_3), .int (nI f1314_4), .int f1314_5, .int f1314_6, .int f1314_7, .ref (κ w).2.2.2, .ref f1314_9, .ref f1314_10, .ref f1314_11, .int (nI f1314_12), .int f1314_13, .int f1314_14, .int f1314_15, .int f1314_16, .ref f1314_17]))] _ := va_P.cons hat1317 hP
  refine ld_i (v := (g1317 0)) hx hb hN hP 0 rfl (vp_in_nI (n := 0) (N := 45783) (by omega) (by omega)) (by rw [(show (0 : Int32).toNatClampNeg = 0 from nI_clamp (n := 0) (by omega))]) dX9_meanError_20 ?_
  obtain ⟨n1318, hn1318, en1318⟩ := q1317.1
  refine tp_i (nI n1318) en1318 ?_
  refine lv_icmp_ge (tgt := 55) hx hb dX9_meanError_21 (by decide) (fun c1319 => ?_) (fun c1319 => ?_)
  · have c1319 : n1318 ≤ p := (nI_leI (a := n1318) (b := p) (by omega) (by omega)).mp c1319
    refine lv_iload_n hx hb dX9_meanError_55 rfl (lv_at hl 2 rfl) ?_
    refine lv_if_ne (tgt := 63) hx hb dX9_meanError_56 (by decide) (fun c1320 => ?_) (fun c1320 => ?_)
    · refine lv_iload_n hx hb dX9_meanError_63 rfl (lv_at hl 1 rfl) ?_
      refine lv_i2d hx hb dX9_meanError_64 ?_
      refine lv_iload_n hx hb dX9_meanError_65 rfl (lv_at hl 2 rfl) ?_
      refine lv_i2d hx hb dX9_meanError_66 ?_
      refine lv_ddiv hx hb dX9_meanError_67 (dd_i x c1320) ?_
      refine gn_d (fun z1321 => ?_)
      exact en_d hx hb hr hlocks hL (Nat.zero_le _) (Nat.zero_le _) dX9_meanError_68 (⟨hT, hF⟩)
    · refine lv_dconst0 hx hb dX9_meanError_59 ?_
      refine gn_d (fun z1322 => ?_)
      refine lv_goto (tgt := 68) hx hb dX9_meanError_60 (by decide) ?_
      exact en_d hx hb hr hlocks hL (Nat.zero_le _) (Nat.zero_le _) dX9_meanError_68 (⟨hT, hF⟩)
  · have c1319 : ¬ n1318 ≤ p := fun h9 => c1319 ((nI_leI (a := n1318) (b := p) (by omega) (by omega)).mpr h9)
    refine lv_iload_n hx hb dX9_meanError_24 rfl (lv_at hl 1 rfl) ?_
    refine lv_aload_n hx hb dX9_meanError_25 rfl (lv_at hl 3 rfl) ?_
    refine lv_iload_n hx hb dX9_meanError_26 rfl (lv_at hl 0 rfl) ?_
    refine cv_i (As := [.int (nI p)]) (rest := [.int x]) (b := w) ⟨hx, hb, hml, hown, hts⟩ (c_X9_isUp hT (w := w) hw (n := p) (by first | omega | decide | assumption)) (cwV 1 hts gX9_meanError_X9_isUp rfl rfl rfl hdX9_isUp_v ⟨Nat.le_of_ble_eq_true rfl, Nat.le_of_ble_eq_true rfl⟩) hN hE hL (rcv10 hN hT hw.1) rfl rfl hl.1 (Nat.le_of_ble_eq_true rfl) dX9_meanError_27 (Nat.zero_le _) (Nat.zero_le _) (fun r1323 H1 locs hL hqr1323 => ?_)
    obtain ⟨h9, hqr1323⟩ := hqr1323; replace h9 := h9.symm; subst h9
    rcases hqr1323 with rfl | rfl
    · refine lv_if_eq (tgt := 46) hx hb dX9_meanError_30 (by decide) (fun _ => ?_) (fun c9 => absurd (by decide) c9)
      refine lv_iconst (v := 0) hx hb dX9_meanError_46 (by decide) ?_
      refine lv_iadd hx hb dX9_meanError_47 ?_
      refine gn_i (fun x1324 => ?_)
      refine lv_istore_n (lv' := [(1, .int x1324), (3, .int (nI p)), (2, .int z), (0, .ref w)]) hx hb dX9_meanError_48 rfl hl (by decide) rfl (fun ls hl => ?_)
      refine lv_iinc (v := (nI (p + 1))) (lv' := [(3, .int (nI (p + 1))), (1, .int x1324), (2, .int z), (0, .ref w)]) hx hb dX9_meanError_49 hl (k := 1) rfl (nI_add _ 1) (by decide) rfl (fun ls hl => ?_)
      refine lv_goto (tgt := 14) hx hb dX9_meanError_52 (by decide) ?_
      exact ih1316 ((p + 1), x1324, z) _ _ (by show 8 - ((p + 1)) < 8 - p; omega) (by show ((p + 1)) ≤ 8; omega) hL (lv_sub hl [0, 1, 2, 3] rfl)
    · refine lv_if_eq (tgt := 46) hx hb dX9_meanError_30 (by decide) (fun c9 => absurd c9 (by decide)) (fun _ => ?_)
      refine lv_aload_n hx hb dX9_meanError_33 rfl (lv_at hl 3 rfl) ?_
      refine lv_iload_n hx hb dX9_meanError_34 rfl (lv_at hl 0 rfl) ?_
      refine lv_bipush (v := 9) hx hb dX9_meanError_35 (by decide) ?_
      refine cv_i (As := [.int (nI p), .int 9]) (rest := [.int x]) (b := w) ⟨hx, hb, hml, hown, hts⟩ (c_X9_toldPlayer hT (w := w) hw (n := p) (y := 9) (by first | omega | decide | assumption)) (cwV 2 hts gX9_meanError_X9_toldPlayer rfl rfl rfl hdX9_toldPlayer_v ⟨Nat.le_of_ble_eq_true rfl, Nat.le_of_ble_eq_true rfl⟩) hN hE hL (rcv10 hN hT hw.1) rfl rfl hl.1 (Nat.le_of_ble_eq_true rfl) dX9_meanError_37 (Nat.zero_le _) (Nat.zero_le _) (fun r1325 H1 locs hL hqr1325 => ?_)
      obtain rfl := hqr1325.symm
      refine va_mabs hx hb (hml.trans hl.1.symm) hown (hts _ mX9_meanError_3) (hts _ mX9_meanError_4) (hts _ mX9_meanError_5) (hts _ mX9_meanError_6) (Nat.le_of_ble_eq_true rfl) (Nat.le_of_ble_eq_true rfl) (Nat.zero_le _) (Nat.zero_le _) dX9_meanError_40 ?_
      refine gn_i (fun x1326 => ?_)
      refine lv_goto (tgt := 47) hx hb dX9_meanError_43 (by decide) ?_
      refine lv_iadd hx hb dX9_meanError_47 ?_
      refine gn_i (fun x1327 => ?_)
      refine lv_istore_n (lv' := [(1, .int x1327), (3, .int (nI p)), (2, .int z), (0, .ref w)]) hx hb dX9_meanError_48 rfl hl (by decide) rfl (fun ls hl => ?_)
      refine lv_iinc (v := (nI (p + 1))) (lv' := [(3, .int (nI (p + 1))), (1, .int x1327), (2, .int z), (0, .ref w)]) hx hb dX9_meanError_49 hl (k := 1) rfl (nI_add _ 1) (by decide) rfl (fun ls hl => ?_)
      refine lv_goto (tgt := 14) hx hb dX9_meanError_52 (by decide) ?_
      exact ih1316 ((p + 1), x1327, z) _ _ (by show 8 - ((p + 1)) < 8 - p; omega) (by show ((p + 1)) ≤ 8; omega) hL (lv_sub hl [0, 1, 2, 3] rfl)
theorem mX9_append_1 : (.fieldLink RX9 40 "OneBeatModel" "thrown" "I" : Cond) ∈ wsX9_append := List.mem_of_getElem? (i := 1) (by decide +kernel)
theorem iX9_append_9 : ∀ w ∈ wsX90, w ∈ wsX9_append := fun w h => List.mem_of_mem_drop (List.mem_of_mem_take ((show wsX90 = (wsX9_append.drop 4).take 18 by decide +kernel) ▸ h))
theorem mX9_append_2 : (.fieldLink RX9 47 "OneBeatModel" "bufferLength" "I" : Cond) ∈ wsX9_append := List.mem_of_getElem? (i := 2) (by decide +kernel)
theorem mX9_append_3 : (.fieldLink RX9 9 "OneBeatModel" "buffer" "[I" : Cond) ∈ wsX9_append := List.mem_of_getElem? (i := 3) (by decide +kernel)
set_option maxHeartbeats 4000000 in
set_option maxRecDepth 100000 in
theorem c_X9_append {l : Launch} {D : va_G} {cs : Nat → ClassId} {B0 T : Nat} {κ : KM} {H0 : Heap} (hT : WT B0 D cs T κ H0) {w : Nat} (hw : T2 κ w 10 12) {x : Int32} {y : Int32} {z : Int32} {u : Int32} {v : Int32} : KC l yX9_append wsX9_append 0 0 0 0 D cs B0 H0 [.ref w, .int x, .int y, .int z, .int u, .int v] (Qi (fun r H => (r = -1 ∧ 600 < (κ w).2.2.1 + 20 ∧ WT B0 D cs T κ H ∧ Fr B0 [12, 14] κ H0 H) ∨ (r = nI ((κ w).2.2.1 + 20) ∧ (κ w).2.2.1 + 20 ≤ 600 ∧ WT B0 D cs T (kp κ w ((κ w).2.2.1 + 20) (κ w).2.2.2) H ∧ Fr B0 [12, 14] κ H0 H))) := by
  refine KC.of cX9_append 8 (some .int) (by decide) rfl (Nat.le_of_ble_eq_true rfl) ?_
  intro p e s m below meth c ls hx hb hr hml hown hts hlocks hin hN hE hH0 hl
  have hown : s.vm.findClass RX9 = some m.cls := hown
  have hl : lv_has ls 8 [(0, .ref w), (1, .int x), (2, .int y), (3, .int z), (4, .int u), (5, .int v)] := hl
  have hL : OkL B0 [] := OkL.nil
  have hF : Fr B0 [12, 14] κ H0 H0 := Fr.rf
  refine lv_aload_n hx hb dX9_append_0 rfl (lv_at hl 0 rfl) ?_
  refine lv_iconst (v := 0) hx hb dX9_append_1 (by decide) ?_
  obtain ⟨hb1328, e1328, hat1328, hk1328⟩ := hT.o10 hw.1
  obtain ⟨f1328_0, f1328_1, f1328_3, f1328_4, f1328_5, f1328_6, f1328_7, f1328_9, f1328_10, f1328_11, f1328_12, f1328_13, f1328_14, f1328_15, f1328_16, f1328_17, rfl, c1328_2, c1328_3, c1328_4, c1328_12, t1328_1, t1328_8, t1328_9, c1328_sd, t1328_10, t1328_11, t1328_17⟩ := hk1328
  have hP : va_P D vwCl [(w, .inr (9, [.int f1328_0, .ref f1328_1, .int (nI ((κ w).2.2.1)), .int (nI f1328_3), .int (nI f1328_4), .int f1328_5, .int f1328_6, .int f1328_7, .ref (κ w).2.2.2, .ref f1328_9, .ref f1328_10, .ref f1328_11, .int (nI f1328_12), .int f1328_13, .int f1328_14, .int f1328_15, .int f1328_16, .ref f1328_17]))] _ := va_P.cons hat1328 va_P.nil
  have hB : Bx B0 D _ [(w, .inr (9, [.int f1328_0, .ref f1328_1, .int (nI ((κ w).2.2.1)), .int (nI f1328_3), .int (nI f1328_4), .int f1328_5, .int f1328_6, .int f1328_7, .ref (κ w).2.2.2, .ref f1328_9, .ref f1328_10, .ref f1328_11, .int (nI f1328_12), .int f1328_13, .int f1328_14, .int f1328_15, .int f1328_16, .ref f1328_17]))] [] _ _ := Bx.of (fun a => (κ a).1) hL hP (fa_c hb1328 fa_n) (by simp only [List.map_cons, List.map_nil, hw.1]; decide)
  refine b_put (D := D) (ci := 9) (v := .int 0) (ty := .int) (C := RX9) (T := TX9) (N := 18) hx hb hts iX9_append_9 tyX9 tyX9_ok nmX9 hown hN hB 0 rfl rfl 0 (by decide) (hts _ mX9_append_1) (fun _ h9 => h9) rfl (by decide +kernel) rfl rfl (Nat.le_of_ble_eq_true rfl) (.inl rfl) dX9_append_2 (fun H locs hB => ?_)
  have hB : Bx B0 D _ [(w, .inr (9, [.int 0, .ref f1328_1, .int (nI ((κ w).2.2.1)), .int (nI f1328_3), .int (nI f1328_4), .int f1328_5, .int f1328_6, .int f1328_7, .ref (κ w).2.2.2, .ref f1328_9, .ref f1328_10, .ref f1328_11, .int (nI f1328_12), .int f1328_13, .int f1328_14, .int f1328_15, .int f1328_16, .ref f1328_17]))] [w] _ _ := hB
  refine lv_aload_n hx hb dX9_append_5 rfl (lv_at hl 0 rfl) ?_
  refine va_get (D := D) (ci := 9) (v := .int (nI ((κ w).2.2.1))) (C := RX9) (T := TX9) (N := 18) hx hb hts iX9_append_9 hown hN.1 hB.1 0 rfl rfl 2 (by decide) (hts _ mX9_append_2) (fun _ h9 => h9) rfl dX9_append_6 ?_
  refine lv_bipush (v := 20) hx hb dX9_append_9 (by decide) ?_
  refine lv_iadd hx hb dX9_append_11 ?_
  refine tp_i (nI (((κ w).2.2.1) + 20)) (nI_add ((κ w).2.2.1) 20) ?_
  refine lv_sipush (v := 600) hx hb dX9_append_12 (by decide) ?_
  refine lv_icmp_le (tgt := 20) hx hb dX9_append_15 (by decide) (fun c1329 => ?_) (fun c1329 => ?_)
  · have c1329 : (((κ w).2.2.1) + 20) ≤ 600 := (nI_leI (a := (((κ w).2.2.1) + 20)) (b := 600) (by omega) (by omega)).mp c1329
    obtain ⟨hb1330, e1330, hat1330, hk1330⟩ := hT.o23 t1328_1.1
    obtain ⟨g1330, rfl⟩ := hk1330
    have hB : Bx B0 D _ [(w, .inr (9, [.int 0, .ref f1328_1, .int (nI ((κ w).2.2.1)), .int (nI f1328_3), .int (nI f1328_4), .int f1328_5, .int f1328_6, .int f1328_7, .ref (κ w).2.2.2, .ref f1328_9, .ref f1328_10, .ref f1328_11, .int (nI f1328_12), .int f1328_13, .int f1328_14, .int f1328_15, .int f1328_16, .ref f1328_17])), (f1328_1, .inl (cs 0, 600, .inl g1330))] [w] _ _ := hB.more hat1330 hb1330 (fa_c (ne_c hw.1 t1328_1.1 (by decide)) fa_n) (fa_c (ne_c hw.1 t1328_1.1 (by decide)) fa_n)
    refine lv_iconst (v := 0) hx hb dX9_append_20 (by decide) ?_
    refine lv_istore (lv' := [(6, .int 0), (0, .ref w), (1, .int x), (2, .int y), (3, .int z), (4, .int u), (5, .int v)]) hx hb dX9_append_21 hl (by decide) rfl (fun ls hl => ?_)
    have hB : Bx B0 D _ [(w, .inr (9, [.int 0, .ref f1328_1, .int (nI ((κ w).2.2.1)), .int (nI f1328_3), .int (nI f1328_4), .int f1328_5, .int f1328_6, .int f1328_7, .ref (κ w).2.2.2, .ref f1328_9, .ref f1328_10, .ref f1328_11, .int (nI f1328_12), .int f1328_13, .int f1328_14, .int f1328_15, .int f1328_16, .ref f1328_17])), (f1328_1, .inl (cs 0, 600, .inl g1330))] [f1328_1, w] _ _ := hB.ms (by simp) (fa_c hb1330 (fa_c hb1328 fa_n))
    refine lp_m (α := Nat × (Nat → Int32)) (nL := 8) (fun a9 => 20 - a9.1) (fun a9 H9 l9 => (a9.1 ≤ 20) ∧ (Bx B0 D H0 [(w, .inr (9, [.int 0, .ref f1328_1, .int (nI ((κ w).2.2.1 + a9.1)), .int (nI f1328_3), .int (nI f1328_4), .int f1328_5, .int f1328_6, .int f1328_7, .ref (κ w).2.2.2, .ref f1328_9, .ref f1328_10, .ref f1328_11, .int (nI f1328_12), .int f1328_13, .int f1328_14, .int f1328_15, .int f1328_16, .ref f1328_17])), (f1328_1, .inl (cs 0, 600, .inl a9.2))] [f1328_1, w] H9 l9)) (fun a9 => [(6, .int (nI a9.1)), (0, .ref w), (1, .int x), (2, .int y), (3, .int z), (4, .int u), (5, .int v)]) ?_ (0, g1330) _ _ _ ⟨(by show (0) ≤ 20; omega), hB⟩ (lv_sub hl [0, 1, 2, 3, 4, 5, 6] rfl)
    rintro ⟨k, g9a⟩ H locs ls ih1331 ⟨hk, hB⟩ hl
    have hl : lv_has ls 8 [(6, .int (nI k)), (0, .ref w), (1, .int x), (2, .int y), (3, .int z), (4, .int u), (5, .int v)] := hl
    have hk : k ≤ 20 := hk
    have hB : Bx B0 D _ [(w, .inr (9, [.int 0, .ref f1328_1, .int (nI ((κ w).2.2.1 + k)), .int (nI f1328_3), .int (nI f1328_4), .int f1328_5, .int f1328_6, .int f1328_7, .ref (κ w).2.2.2, .ref f1328_9, .ref f1328_10, .ref f1328_11, .int (nI f1328_12), .int f1328_13, .int f1328_14, .int f1328_15, .int f1328_16, .ref f1328_17])), (f1328_1, .inl (cs 0, 600, .inl g9a))] [f1328_1, w] _ _ := hB
    refine lv_iload hx hb dX9_append_23 (lv_at hl 0 rfl) ?_
    refine lv_bipush (v := 20) hx hb dX9_append_25 (by decide) ?_
    refine lv_icmp_ge (tgt := 120) hx hb dX9_append_27 (by decide) (fun c1332 => ?_) (fun c1332 => ?_)
    · have c1332 : 20 ≤ k := (nI_leI (a := 20) (b := k) (by omega) (by omega)).mp c1332
      have hk9 : k = 20 := by omega
      subst hk9
      have hB : Bx B0 D _ [(w, .inr (9, [.int 0, .ref f1328_1, .int (nI ((κ w).2.2.1 + 20)), .int (nI f1328_3), .int (nI f1328_4), .int f1328_5, .int f1328_6, .int f1328_7, .ref (κ w).2.2.2, .ref f1328_9, .ref f1328_10, .ref f1328_11, .int (nI f1328_12), .int f1328_13, .int f1328_14, .int f1328_15, .int f1328_16, .ref f1328_17])), (f1328_1, .inl (cs 0, 600, .inl g9a))] [f1328_1, w] _ _ := hB
      refine lv_aload_n hx hb dX9_append_120 rfl (lv_at hl 1 rfl) ?_
      refine va_get (D := D) (ci := 9) (v := .int (nI ((κ w).2.2.1 + 20))) (C := RX9) (T := TX9) (N := 18) hx hb hts iX9_append_9 hown hN.1 hB.1 0 rfl rfl 2 (by decide) (hts _ mX9_append_2) (fun _ h9 => h9) rfl dX9_append_121 ?_
      have hF : Fr B0 [12, 14] κ H0 _ := hF.close hB (fa_c (by simp [t1328_1.2]) (fa_c (by simp [hw.2]) fa_n))
      have hT : WT B0 D cs T (kp κ w ((κ w).2.2.1 + 20) (κ w).2.2.2) _ := hT.closeK w ((κ w).2.2.1 + 20) (κ w).2.2.2 hB (by rw [hw.1]; decide) (by rw [hw.1]; decide) (List.mem_of_getElem? (i := 1) rfl) ⟨⟨1, _, rfl, kp_oth (ne_c t1328_1.1 hw.1 (by decide)) (by rw [hw.1]; decide) (by rw [hw.1]; decide) (ok_23 t1328_1.1 ⟨_, rfl⟩)⟩, ⟨⟨0, _, rfl, kp_ok (ok_10 (k := ((κ w).1, (κ w).2.1, _, _)) hw.1 ⟨_, _, _, _, _, _, _, _, _, _, _, _, _, _, _, _, rfl, (by show ((κ w).2.2.1 + 20) ≤ 600; omega), (by omega), (by omega), (by omega), (t2kp t1328_1), (t2kp t1328_8), (t2kp t1328_9), (by rw [kp_n (ne_c t1328_9.1 hw.1 (by decide))]; exact c1328_sd), (t2kp t1328_10), (t2kp t1328_11), (t2kp t1328_17)⟩)⟩, trivial⟩⟩
      have hL : OkL B0 _ := hB.2.2.2.2.2
      exact en_i hx hb hr hlocks hL rfl (Nat.zero_le _) (Nat.zero_le _) dX9_append_124 ((Or.inr ⟨rfl, by omega, hT, hF⟩))
    · have c1332 : ¬ 20 ≤ k := fun h9 => c1332 ((nI_leI (a := 20) (b := k) (by omega) (by omega)).mpr h9)
      refine lv_iload hx hb dX9_append_30 (lv_at hl 0 rfl) ?_
      refine lv_iconst (v := 4) hx hb dX9_append_32 (by decide) ?_
      refine lv_icmp_ge (tgt := 40) hx hb dX9_append_33 (by decide) (fun c1333 => ?_) (fun c1333 => ?_)
      · have c1333 : 4 ≤ k := (nI_leI (a := 4) (b := k) (by omega) (by omega)).mp c1333
        refine lv_iload hx hb dX9_append_40 (lv_at hl 0 rfl) ?_
        refine lv_bipush (v := 8) hx hb dX9_append_42 (by decide) ?_
        refine lv_icmp_ge (tgt := 51) hx hb dX9_append_44 (by decide) (fun c1334 => ?_) (fun c1334 => ?_)
        · have c1334 : 8 ≤ k := (nI_leI (a := 8) (b := k) (by omega) (by omega)).mp c1334
          refine lv_iload hx hb dX9_append_51 (lv_at hl 0 rfl) ?_
          refine lv_bipush (v := 12) hx hb dX9_append_53 (by decide) ?_
          refine lv_icmp_ge (tgt := 62) hx hb dX9_append_55 (by decide) (fun c1335 => ?_) (fun c1335 => ?_)
          · have c1335 : 12 ≤ k := (nI_leI (a := 12) (b := k) (by omega) (by omega)).mp c1335
            refine lv_iload hx hb dX9_append_62 (lv_at hl 0 rfl) ?_
            refine lv_bipush (v := 16) hx hb dX9_append_64 (by decide) ?_
            refine lv_icmp_ge (tgt := 74) hx hb dX9_append_66 (by decide) (fun c1336 => ?_) (fun c1336 => ?_)
            · have c1336 : 16 ≤ k := (nI_leI (a := 16) (b := k) (by omega) (by omega)).mp c1336
              refine lv_iload hx hb dX9_append_74 (lv_at hl 6 rfl) ?_
              refine lv_istore (lv' := [(7, .int v), (6, .int (nI k)), (0, .ref w), (1, .int x), (2, .int y), (3, .int z), (4, .int u), (5, .int v)]) hx hb dX9_append_76 hl (by decide) rfl (fun ls hl => ?_)
              refine lv_aload_n hx hb dX9_append_78 rfl (lv_at hl 2 rfl) ?_
              refine va_get (D := D) (ci := 9) (v := .ref f1328_1) (C := RX9) (T := TX9) (N := 18) hx hb hts iX9_append_9 hown hN.1 hB.1 0 rfl rfl 1 (by decide) (hts _ mX9_append_3) (fun _ h9 => h9) rfl dX9_append_79 ?_
              refine lv_aload_n hx hb dX9_append_82 rfl (lv_at hl 2 rfl) ?_
              refine va_get (D := D) (ci := 9) (v := .int (nI ((κ w).2.2.1 + k))) (C := RX9) (T := TX9) (N := 18) hx hb hts iX9_append_9 hown hN.1 hB.1 0 rfl rfl 2 (by decide) (hts _ mX9_append_2) (fun _ h9 => h9) rfl dX9_append_83 ?_
              refine lv_iload hx hb dX9_append_86 (lv_at hl 0 rfl) ?_
              refine lv_bipush (v := 24) hx hb dX9_append_88 (by decide) ?_
              refine lv_bipush (v := 8) hx hb dX9_append_90 (by decide) ?_
              refine lv_iload hx hb dX9_append_92 (lv_at hl 1 rfl) ?_
              refine lv_iconst (v := 4) hx hb dX9_append_94 (by decide) ?_
              refine lv_irem hx hb dX9_append_95 (by decide) ?_
              refine tp_i (nI (k % 4)) (nI_rem (a := k) (d := 4) (by omega) (by decide) (by decide)) ?_
              refine lv_imul hx hb dX9_append_96 ?_
              refine tp_i (nI (8 * (k % 4))) (nI_mul 8 (k % 4)) ?_
              refine lv_isub hx hb dX9_append_97 ?_
              refine gn_i (fun x1337 => ?_)
              refine lv_ishr hx hb dX9_append_98 ?_
              refine gn_i (fun x1338 => ?_)
              refine lv_sipush (v := 255) hx hb dX9_append_99 (by decide) ?_
              refine lv_iand hx hb dX9_append_102 ?_
              refine gn_i (fun x1339 => ?_)
              refine b_i hx hb hN hB 1 rfl (vp_in_nI (n := ((κ w).2.2.1 + k)) (N := 600) (by omega) (by omega)) (.inr ⟨rfl, List.mem_of_getElem? (i := 0) rfl⟩) dX9_append_103 (fun H locs hB => ?_)
              rw [(show ((nI ((κ w).2.2.1 + k)) : Int32).toNatClampNeg = ((κ w).2.2.1 + k) from nI_clamp (n := ((κ w).2.2.1 + k)) (by omega))] at hB
              have hB : Bx B0 D _ [(w, .inr (9, [.int 0, .ref f1328_1, .int (nI ((κ w).2.2.1 + k)), .int (nI f1328_3), .int (nI f1328_4), .int f1328_5, .int f1328_6, .int f1328_7, .ref (κ w).2.2.2, .ref f1328_9, .ref f1328_10, .ref f1328_11, .int (nI f1328_12), .int f1328_13, .int f1328_14, .int f1328_15, .int f1328_16, .ref f1328_17])), (f1328_1, .inl (cs 0, 600, .inl (upd g9a ((κ w).2.2.1 + k) x1339)))] [f1328_1, w] _ _ := hB
              generalize (upd g9a ((κ w).2.2.1 + k) x1339) = g1340 at hB
              refine lv_aload_n hx hb dX9_append_104 rfl (lv_at hl 2 rfl) ?_
              refine lv_dup hx hb dX9_append_105 rfl ?_
              refine va_get (D := D) (ci := 9) (v := .int (nI ((κ w).2.2.1 + k))) (C := RX9) (T := TX9) (N := 18) hx hb hts iX9_append_9 hown hN.1 hB.1 0 rfl rfl 2 (by decide) (hts _ mX9_append_2) (fun _ h9 => h9) rfl dX9_append_106 ?_
              refine lv_iconst (v := 1) hx hb dX9_append_109 (by decide) ?_
              refine lv_iadd hx hb dX9_append_110 ?_
              refine tp_i (nI (((κ w).2.2.1 + k) + 1)) (nI_add ((κ w).2.2.1 + k) 1) ?_
              refine b_put (D := D) (ci := 9) (v := .int (nI (((κ w).2.2.1 + k) + 1))) (ty := .int) (C := RX9) (T := TX9) (N := 18) hx hb hts iX9_append_9 tyX9 tyX9_ok nmX9 hown hN hB 0 rfl rfl 2 (by decide) (hts _ mX9_append_2) (fun _ h9 => h9) rfl (by decide +kernel) rfl rfl (Nat.le_of_ble_eq_true rfl) (.inr ⟨rfl, List.mem_of_getElem? (i := 1) rfl⟩) dX9_append_111 (fun H locs hB => ?_)
              have hB : Bx B0 D _ [(w, .inr (9, [.int 0, .ref f1328_1, .int (nI (((κ w).2.2.1 + k) + 1)), .int (nI f1328_3), .int (nI f1328_4), .int f1328_5, .int f1328_6, .int f1328_7, .ref (κ w).2.2.2, .ref f1328_9, .ref f1328_10, .ref f1328_11, .int (nI f1328_12), .int f1328_13, .int f1328_14, .int f1328_15, .int f1328_16, .ref f1328_17])), (f1328_1, .inl (cs 0, 600, .inl g1340))] [f1328_1, w] _ _ := hB
              refine lv_iinc (v := (nI (k + 1))) (lv' := [(6, .int (nI (k + 1))), (7, .int v), (0, .ref w), (1, .int x), (2, .int y), (3, .int z), (4, .int u), (5, .int v)]) hx hb dX9_append_114 hl (k := 1) rfl (nI_add _ 1) (by decide) rfl (fun ls hl => ?_)
              refine lv_goto (tgt := 23) hx hb dX9_append_117 (by decide) ?_
              exact ih1331 ((k + 1), g1340) _ _ _ (by show 20 - ((k + 1)) < 20 - k; omega) ⟨(by show ((k + 1)) ≤ 20; omega), hB⟩ (lv_sub hl [0, 2, 3, 4, 5, 6, 7] rfl)
            · have c1336 : ¬ 16 ≤ k := fun h9 => c1336 ((nI_leI (a := 16) (b := k) (by omega) (by omega)).mpr h9)
              refine lv_iload hx hb dX9_append_69 (lv_at hl 5 rfl) ?_
              refine lv_goto (tgt := 76) hx hb dX9_append_71 (by decide) ?_
              refine lv_istore (lv' := [(7, .int u), (6, .int (nI k)), (0, .ref w), (1, .int x), (2, .int y), (3, .int z), (4, .int u), (5, .int v)]) hx hb dX9_append_76 hl (by decide) rfl (fun ls hl => ?_)
              refine lv_aload_n hx hb dX9_append_78 rfl (lv_at hl 2 rfl) ?_
              refine va_get (D := D) (ci := 9) (v := .ref f1328_1) (C := RX9) (T := TX9) (N := 18) hx hb hts iX9_append_9 hown hN.1 hB.1 0 rfl rfl 1 (by decide) (hts _ mX9_append_3) (fun _ h9 => h9) rfl dX9_append_79 ?_
              refine lv_aload_n hx hb dX9_append_82 rfl (lv_at hl 2 rfl) ?_
              refine va_get (D := D) (ci := 9) (v := .int (nI ((κ w).2.2.1 + k))) (C := RX9) (T := TX9) (N := 18) hx hb hts iX9_append_9 hown hN.1 hB.1 0 rfl rfl 2 (by decide) (hts _ mX9_append_2) (fun _ h9 => h9) rfl dX9_append_83 ?_
              refine lv_iload hx hb dX9_append_86 (lv_at hl 0 rfl) ?_
              refine lv_bipush (v := 24) hx hb dX9_append_88 (by decide) ?_
              refine lv_bipush (v := 8) hx hb dX9_append_90 (by decide) ?_
              refine lv_iload hx hb dX9_append_92 (lv_at hl 1 rfl) ?_
              refine lv_iconst (v := 4) hx hb dX9_append_94 (by decide) ?_
              refine lv_irem hx hb dX9_append_95 (by decide) ?_
              refine tp_i (nI (k % 4)) (nI_rem (a := k) (d := 4) (by omega) (by decide) (by decide)) ?_
              refine lv_imul hx hb dX9_append_96 ?_
              refine tp_i (nI (8 * (k % 4))) (nI_mul 8 (k % 4)) ?_
              refine lv_isub hx hb dX9_append_97 ?_
              refine gn_i (fun x1341 => ?_)
              refine lv_ishr hx hb dX9_append_98 ?_
              refine gn_i (fun x1342 => ?_)
              refine lv_sipush (v := 255) hx hb dX9_append_99 (by decide) ?_
              refine lv_iand hx hb dX9_append_102 ?_
              refine gn_i (fun x1343 => ?_)
              refine b_i hx hb hN hB 1 rfl (vp_in_nI (n := ((κ w).2.2.1 + k)) (N := 600) (by omega) (by omega)) (.inr ⟨rfl, List.mem_of_getElem? (i := 0) rfl⟩) dX9_append_103 (fun H locs hB => ?_)
              rw [(show ((nI ((κ w).2.2.1 + k)) : Int32).toNatClampNeg = ((κ w).2.2.1 + k) from nI_clamp (n := ((κ w).2.2.1 + k)) (by omega))] at hB
              have hB : Bx B0 D _ [(w, .inr (9, [.int 0, .ref f1328_1, .int (nI ((κ w).2.2.1 + k)), .int (nI f1328_3), .int (nI f1328_4), .int f1328_5, .int f1328_6, .int f1328_7, .ref (κ w).2.2.2, .ref f1328_9, .ref f1328_10, .ref f1328_11, .int (nI f1328_12), .int f1328_13, .int f1328_14, .int f1328_15, .int f1328_16, .ref f1328_17])), (f1328_1, .inl (cs 0, 600, .inl (upd g9a ((κ w).2.2.1 + k) x1343)))] [f1328_1, w] _ _ := hB
              generalize (upd g9a ((κ w).2.2.1 + k) x1343) = g1344 at hB
              refine lv_aload_n hx hb dX9_append_104 rfl (lv_at hl 2 rfl) ?_
              refine lv_dup hx hb dX9_append_105 rfl ?_
              refine va_get (D := D) (ci := 9) (v := .int (nI ((κ w).2.2.1 + k))) (C := RX9) (T := TX9) (N := 18) hx hb hts iX9_append_9 hown hN.1 hB.1 0 rfl rfl 2 (by decide) (hts _ mX9_append_2) (fun _ h9 => h9) rfl dX9_append_106 ?_
              refine lv_iconst (v := 1) hx hb dX9_append_109 (by decide) ?_
              refine lv_iadd hx hb dX9_append_110 ?_
              refine tp_i (nI (((κ w).2.2.1 + k) + 1)) (nI_add ((κ w).2.2.1 + k) 1) ?_
              refine b_put (D := D) (ci := 9) (v := .int (nI (((κ w).2.2.1 + k) + 1))) (ty := .int) (C := RX9) (T := TX9) (N := 18) hx hb hts iX9_append_9 tyX9 tyX9_ok nmX9 hown hN hB 0 rfl rfl 2 (by decide) (hts _ mX9_append_2) (fun _ h9 => h9) rfl (by decide +kernel) rfl rfl (Nat.le_of_ble_eq_true rfl) (.inr ⟨rfl, List.mem_of_getElem? (i := 1) rfl⟩) dX9_append_111 (fun H locs hB => ?_)
              have hB : Bx B0 D _ [(w, .inr (9, [.int 0, .ref f1328_1, .int (nI (((κ w).2.2.1 + k) + 1)), .int (nI f1328_3), .int (nI f1328_4), .int f1328_5, .int f1328_6, .int f1328_7, .ref (κ w).2.2.2, .ref f1328_9, .ref f1328_10, .ref f1328_11, .int (nI f1328_12), .int f1328_13, .int f1328_14, .int f1328_15, .int f1328_16, .ref f1328_17])), (f1328_1, .inl (cs 0, 600, .inl g1344))] [f1328_1, w] _ _ := hB
              refine lv_iinc (v := (nI (k + 1))) (lv' := [(6, .int (nI (k + 1))), (7, .int u), (0, .ref w), (1, .int x), (2, .int y), (3, .int z), (4, .int u), (5, .int v)]) hx hb dX9_append_114 hl (k := 1) rfl (nI_add _ 1) (by decide) rfl (fun ls hl => ?_)
              refine lv_goto (tgt := 23) hx hb dX9_append_117 (by decide) ?_
              exact ih1331 ((k + 1), g1344) _ _ _ (by show 20 - ((k + 1)) < 20 - k; omega) ⟨(by show ((k + 1)) ≤ 20; omega), hB⟩ (lv_sub hl [0, 2, 3, 4, 5, 6, 7] rfl)
          · have c1335 : ¬ 12 ≤ k := fun h9 => c1335 ((nI_leI (a := 12) (b := k) (by omega) (by omega)).mpr h9)
            refine lv_iload_n hx hb dX9_append_58 rfl (lv_at hl 4 rfl) ?_
            refine lv_goto (tgt := 76) hx hb dX9_append_59 (by decide) ?_
            refine lv_istore (lv' := [(7, .int z), (6, .int (nI k)), (0, .ref w), (1, .int x), (2, .int y), (3, .int z), (4, .int u), (5, .int v)]) hx hb dX9_append_76 hl (by decide) rfl (fun ls hl => ?_)
            refine lv_aload_n hx hb dX9_append_78 rfl (lv_at hl 2 rfl) ?_
            refine va_get (D := D) (ci := 9) (v := .ref f1328_1) (C := RX9) (T := TX9) (N := 18) hx hb hts iX9_append_9 hown hN.1 hB.1 0 rfl rfl 1 (by decide) (hts _ mX9_append_3) (fun _ h9 => h9) rfl dX9_append_79 ?_
            refine lv_aload_n hx hb dX9_append_82 rfl (lv_at hl 2 rfl) ?_
            refine va_get (D := D) (ci := 9) (v := .int (nI ((κ w).2.2.1 + k))) (C := RX9) (T := TX9) (N := 18) hx hb hts iX9_append_9 hown hN.1 hB.1 0 rfl rfl 2 (by decide) (hts _ mX9_append_2) (fun _ h9 => h9) rfl dX9_append_83 ?_
            refine lv_iload hx hb dX9_append_86 (lv_at hl 0 rfl) ?_
            refine lv_bipush (v := 24) hx hb dX9_append_88 (by decide) ?_
            refine lv_bipush (v := 8) hx hb dX9_append_90 (by decide) ?_
            refine lv_iload hx hb dX9_append_92 (lv_at hl 1 rfl) ?_
            refine lv_iconst (v := 4) hx hb dX9_append_94 (by decide) ?_
            refine lv_irem hx hb dX9_append_95 (by decide) ?_
            refine tp_i (nI (k % 4)) (nI_rem (a := k) (d := 4) (by omega) (by decide) (by decide)) ?_
            refine lv_imul hx hb dX9_append_96 ?_
            refine tp_i (nI (8 * (k % 4))) (nI_mul 8 (k % 4)) ?_
            refine lv_isub hx hb dX9_append_97 ?_
            refine gn_i (fun x1345 => ?_)
            refine lv_ishr hx hb dX9_append_98 ?_
            refine gn_i (fun x1346 => ?_)
            refine lv_sipush (v := 255) hx hb dX9_append_99 (by decide) ?_
            refine lv_iand hx hb dX9_append_102 ?_
            refine gn_i (fun x1347 => ?_)
            refine b_i hx hb hN hB 1 rfl (vp_in_nI (n := ((κ w).2.2.1 + k)) (N := 600) (by omega) (by omega)) (.inr ⟨rfl, List.mem_of_getElem? (i := 0) rfl⟩) dX9_append_103 (fun H locs hB => ?_)
            rw [(show ((nI ((κ w).2.2.1 + k)) : Int32).toNatClampNeg = ((κ w).2.2.1 + k) from nI_clamp (n := ((κ w).2.2.1 + k)) (by omega))] at hB
            have hB : Bx B0 D _ [(w, .inr (9, [.int 0, .ref f1328_1, .int (nI ((κ w).2.2.1 + k)), .int (nI f1328_3), .int (nI f1328_4), .int f1328_5, .int f1328_6, .int f1328_7, .ref (κ w).2.2.2, .ref f1328_9, .ref f1328_10, .ref f1328_11, .int (nI f1328_12), .int f1328_13, .int f1328_14, .int f1328_15, .int f1328_16, .ref f1328_17])), (f1328_1, .inl (cs 0, 600, .inl (upd g9a ((κ w).2.2.1 + k) x1347)))] [f1328_1, w] _ _ := hB
            generalize (upd g9a ((κ w).2.2.1 + k) x1347) = g1348 at hB
            refine lv_aload_n hx hb dX9_append_104 rfl (lv_at hl 2 rfl) ?_
            refine lv_dup hx hb dX9_append_105 rfl ?_
            refine va_get (D := D) (ci := 9) (v := .int (nI ((κ w).2.2.1 + k))) (C := RX9) (T := TX9) (N := 18) hx hb hts iX9_append_9 hown hN.1 hB.1 0 rfl rfl 2 (by decide) (hts _ mX9_append_2) (fun _ h9 => h9) rfl dX9_append_106 ?_
            refine lv_iconst (v := 1) hx hb dX9_append_109 (by decide) ?_
            refine lv_iadd hx hb dX9_append_110 ?_
            refine tp_i (nI (((κ w).2.2.1 + k) + 1)) (nI_add ((κ w).2.2.1 + k) 1) ?_
            refine b_put (D := D) (ci := 9) (v := .int (nI (((κ w).2.2.1 + k) + 1))) (ty := .int) (C := RX9) (T := TX9) (N := 18) hx hb hts iX9_append_9 tyX9 tyX9_ok nmX9 hown hN hB 0 rfl rfl 2 (by decide) (hts _ mX9_append_2) (fun _ h9 => h9) rfl (by decide +kernel) rfl rfl (Nat.le_of_ble_eq_true rfl) (.inr ⟨rfl, List.mem_of_getElem? (i := 1) rfl⟩) dX9_append_111 (fun H locs hB => ?_)
            have hB : Bx B0 D _ [(w, .inr (9, [.int 0, .ref f1328_1, .int (nI (((κ w).2.2.1 + k) + 1)), .int (nI f1328_3), .int (nI f1328_4), .int f1328_5, .int f1328_6, .int f1328_7, .ref (κ w).2.2.2, .ref f1328_9, .ref f1328_10, .ref f1328_11, .int (nI f1328_12), .int f1328_13, .int f1328_14, .int f1328_15, .int f1328_16, .ref f1328_17])), (f1328_1, .inl (cs 0, 600, .inl g1348))] [f1328_1, w] _ _ := hB
            refine lv_iinc (v := (nI (k + 1))) (lv' := [(6, .int (nI (k + 1))), (7, .int z), (0, .ref w), (1, .int x), (2, .int y), (3, .int z), (4, .int u), (5, .int v)]) hx hb dX9_append_114 hl (k := 1) rfl (nI_add _ 1) (by decide) rfl (fun ls hl => ?_)
            refine lv_goto (tgt := 23) hx hb dX9_append_117 (by decide) ?_
            exact ih1331 ((k + 1), g1348) _ _ _ (by show 20 - ((k + 1)) < 20 - k; omega) ⟨(by show ((k + 1)) ≤ 20; omega), hB⟩ (lv_sub hl [0, 2, 3, 4, 5, 6, 7] rfl)
        · have c1334 : ¬ 8 ≤ k := fun h9 => c1334 ((nI_leI (a := 8) (b := k) (by omega) (by omega)).mpr h9)
          refine lv_iload_n hx hb dX9_append_47 rfl (lv_at hl 3 rfl) ?_
          refine lv_goto (tgt := 76) hx hb dX9_append_48 (by decide) ?_
          refine lv_istore (lv' := [(7, .int y), (6, .int (nI k)), (0, .ref w), (1, .int x), (2, .int y), (3, .int z), (4, .int u), (5, .int v)]) hx hb dX9_append_76 hl (by decide) rfl (fun ls hl => ?_)
          refine lv_aload_n hx hb dX9_append_78 rfl (lv_at hl 2 rfl) ?_
          refine va_get (D := D) (ci := 9) (v := .ref f1328_1) (C := RX9) (T := TX9) (N := 18) hx hb hts iX9_append_9 hown hN.1 hB.1 0 rfl rfl 1 (by decide) (hts _ mX9_append_3) (fun _ h9 => h9) rfl dX9_append_79 ?_
          refine lv_aload_n hx hb dX9_append_82 rfl (lv_at hl 2 rfl) ?_
          refine va_get (D := D) (ci := 9) (v := .int (nI ((κ w).2.2.1 + k))) (C := RX9) (T := TX9) (N := 18) hx hb hts iX9_append_9 hown hN.1 hB.1 0 rfl rfl 2 (by decide) (hts _ mX9_append_2) (fun _ h9 => h9) rfl dX9_append_83 ?_
          refine lv_iload hx hb dX9_append_86 (lv_at hl 0 rfl) ?_
          refine lv_bipush (v := 24) hx hb dX9_append_88 (by decide) ?_
          refine lv_bipush (v := 8) hx hb dX9_append_90 (by decide) ?_
          refine lv_iload hx hb dX9_append_92 (lv_at hl 1 rfl) ?_
          refine lv_iconst (v := 4) hx hb dX9_append_94 (by decide) ?_
          refine lv_irem hx hb dX9_append_95 (by decide) ?_
          refine tp_i (nI (k % 4)) (nI_rem (a := k) (d := 4) (by omega) (by decide) (by decide)) ?_
          refine lv_imul hx hb dX9_append_96 ?_
          refine tp_i (nI (8 * (k % 4))) (nI_mul 8 (k % 4)) ?_
          refine lv_isub hx hb dX9_append_97 ?_
          refine gn_i (fun x1349 => ?_)
          refine lv_ishr hx hb dX9_append_98 ?_
          refine gn_i (fun x1350 => ?_)
          refine lv_sipush (v := 255) hx hb dX9_append_99 (by decide) ?_
          refine lv_iand hx hb dX9_append_102 ?_
          refine gn_i (fun x1351 => ?_)
          refine b_i hx hb hN hB 1 rfl (vp_in_nI (n := ((κ w).2.2.1 + k)) (N := 600) (by omega) (by omega)) (.inr ⟨rfl, List.mem_of_getElem? (i := 0) rfl⟩) dX9_append_103 (fun H locs hB => ?_)
          rw [(show ((nI ((κ w).2.2.1 + k)) : Int32).toNatClampNeg = ((κ w).2.2.1 + k) from nI_clamp (n := ((κ w).2.2.1 + k)) (by omega))] at hB
          have hB : Bx B0 D _ [(w, .inr (9, [.int 0, .ref f1328_1, .int (nI ((κ w).2.2.1 + k)), .int (nI f1328_3), .int (nI f1328_4), .int f1328_5, .int f1328_6, .int f1328_7, .ref (κ w).2.2.2, .ref f1328_9, .ref f1328_10, .ref f1328_11, .int (nI f1328_12), .int f1328_13, .int f1328_14, .int f1328_15, .int f1328_16, .ref f1328_17])), (f1328_1, .inl (cs 0, 600, .inl (upd g9a ((κ w).2.2.1 + k) x1351)))] [f1328_1, w] _ _ := hB
          generalize (upd g9a ((κ w).2.2.1 + k) x1351) = g1352 at hB
          refine lv_aload_n hx hb dX9_append_104 rfl (lv_at hl 2 rfl) ?_
          refine lv_dup hx hb dX9_append_105 rfl ?_
          refine va_get (D := D) (ci := 9) (v := .int (nI ((κ w).2.2.1 + k))) (C := RX9) (T := TX9) (N := 18) hx hb hts iX9_append_9 hown hN.1 hB.1 0 rfl rfl 2 (by decide) (hts _ mX9_append_2) (fun _ h9 => h9) rfl dX9_append_106 ?_
          refine lv_iconst (v := 1) hx hb dX9_append_109 (by decide) ?_
          refine lv_iadd hx hb dX9_append_110 ?_
          refine tp_i (nI (((κ w).2.2.1 + k) + 1)) (nI_add ((κ w).2.2.1 + k) 1) ?_
          refine b_put (D := D) (ci := 9) (v := .int (nI (((κ w).2.2.1 + k) + 1))) (ty := .int) (C := RX9) (T := TX9) (N := 18) hx hb hts iX9_append_9 tyX9 tyX9_ok nmX9 hown hN hB 0 rfl rfl 2 (by decide) (hts _ mX9_append_2) (fun _ h9 => h9) rfl (by decide +kernel) rfl rfl (Nat.le_of_ble_eq_true rfl) (.inr ⟨rfl, List.mem_of_getElem? (i := 1) rfl⟩) dX9_append_111 (fun H locs hB => ?_)
          have hB : Bx B0 D _ [(w, .inr (9, [.int 0, .ref f1328_1, .int (nI (((κ w).2.2.1 + k) + 1)), .int (nI f1328_3), .int (nI f1328_4), .int f1328_5, .int f1328_6, .int f1328_7, .ref (κ w).2.2.2, .ref f1328_9, .ref f1328_10, .ref f1328_11, .int (nI f1328_12), .int f1328_13, .int f1328_14, .int f1328_15, .int f1328_16, .ref f1328_17])), (f1328_1, .inl (cs 0, 600, .inl g1352))] [f1328_1, w] _ _ := hB
          refine lv_iinc (v := (nI (k + 1))) (lv' := [(6, .int (nI (k + 1))), (7, .int y), (0, .ref w), (1, .int x), (2, .int y), (3, .int z), (4, .int u), (5, .int v)]) hx hb dX9_append_114 hl (k := 1) rfl (nI_add _ 1) (by decide) rfl (fun ls hl => ?_)
          refine lv_goto (tgt := 23) hx hb dX9_append_117 (by decide) ?_
          exact ih1331 ((k + 1), g1352) _ _ _ (by show 20 - ((k + 1)) < 20 - k; omega) ⟨(by show ((k + 1)) ≤ 20; omega), hB⟩ (lv_sub hl [0, 2, 3, 4, 5, 6, 7] rfl)
      · have c1333 : ¬ 4 ≤ k := fun h9 => c1333 ((nI_leI (a := 4) (b := k) (by omega) (by omega)).mpr h9)
        refine lv_iload_n hx hb dX9_append_36 rfl (lv_at hl 2 rfl) ?_
        refine lv_goto (tgt := 76) hx hb dX9_append_37 (by decide) ?_
        refine lv_istore (lv' := [(7, .int x), (6, .int (nI k)), (0, .ref w), (1, .int x), (2, .int y), (3, .int z), (4, .int u), (5, .int v)]) hx hb dX9_append_76 hl (by decide) rfl (fun ls hl => ?_)
        refine lv_aload_n hx hb dX9_append_78 rfl (lv_at hl 2 rfl) ?_
        refine va_get (D := D) (ci := 9) (v := .ref f1328_1) (C := RX9) (T := TX9) (N := 18) hx hb hts iX9_append_9 hown hN.1 hB.1 0 rfl rfl 1 (by decide) (hts _ mX9_append_3) (fun _ h9 => h9) rfl dX9_append_79 ?_
        refine lv_aload_n hx hb dX9_append_82 rfl (lv_at hl 2 rfl) ?_
        refine va_get (D := D) (ci := 9) (v := .int (nI ((κ w).2.2.1 + k))) (C := RX9) (T := TX9) (N := 18) hx hb hts iX9_append_9 hown hN.1 hB.1 0 rfl rfl 2 (by decide) (hts _ mX9_append_2) (fun _ h9 => h9) rfl dX9_append_83 ?_
        refine lv_iload hx hb dX9_append_86 (lv_at hl 0 rfl) ?_
        refine lv_bipush (v := 24) hx hb dX9_append_88 (by decide) ?_
        refine lv_bipush (v := 8) hx hb dX9_append_90 (by decide) ?_
        refine lv_iload hx hb dX9_append_92 (lv_at hl 1 rfl) ?_
        refine lv_iconst (v := 4) hx hb dX9_append_94 (by decide) ?_
        refine lv_irem hx hb dX9_append_95 (by decide) ?_
        refine tp_i (nI (k % 4)) (nI_rem (a := k) (d := 4) (by omega) (by decide) (by decide)) ?_
        refine lv_imul hx hb dX9_append_96 ?_
        refine tp_i (nI (8 * (k % 4))) (nI_mul 8 (k % 4)) ?_
        refine lv_isub hx hb dX9_append_97 ?_
        refine gn_i (fun x1353 => ?_)
        refine lv_ishr hx hb dX9_append_98 ?_
        refine gn_i (fun x1354 => ?_)
        refine lv_sipush (v := 255) hx hb dX9_append_99 (by decide) ?_
        refine lv_iand hx hb dX9_append_102 ?_
        refine gn_i (fun x1355 => ?_)
        refine b_i hx hb hN hB 1 rfl (vp_in_nI (n := ((κ w).2.2.1 + k)) (N := 600) (by omega) (by omega)) (.inr ⟨rfl, List.mem_of_getElem? (i := 0) rfl⟩) dX9_append_103 (fun H locs hB => ?_)
        rw [(show ((nI ((κ w).2.2.1 + k)) : Int32).toNatClampNeg = ((κ w).2.2.1 + k) from nI_clamp (n := ((κ w).2.2.1 + k)) (by omega))] at hB
        have hB : Bx B0 D _ [(w, .inr (9, [.int 0, .ref f1328_1, .int (nI ((κ w).2.2.1 + k)), .int (nI f1328_3), .int (nI f1328_4), .int f1328_5, .int f1328_6, .int f1328_7, .ref (κ w).2.2.2, .ref f1328_9, .ref f1328_10, .ref f1328_11, .int (nI f1328_12), .int f1328_13, .int f1328_14, .int f1328_15, .int f1328_16, .ref f1328_17])), (f1328_1, .inl (cs 0, 600, .inl (upd g9a ((κ w).2.2.1 + k) x1355)))] [f1328_1, w] _ _ := hB
        generalize (upd g9a ((κ w).2.2.1 + k) x1355) = g1356 at hB
        refine lv_aload_n hx hb dX9_append_104 rfl (lv_at hl 2 rfl) ?_
        refine lv_dup hx hb dX9_append_105 rfl ?_
        refine va_get (D := D) (ci := 9) (v := .int (nI ((κ w).2.2.1 + k))) (C := RX9) (T := TX9) (N := 18) hx hb hts iX9_append_9 hown hN.1 hB.1 0 rfl rfl 2 (by decide) (hts _ mX9_append_2) (fun _ h9 => h9) rfl dX9_append_106 ?_
        refine lv_iconst (v := 1) hx hb dX9_append_109 (by decide) ?_
        refine lv_iadd hx hb dX9_append_110 ?_
        refine tp_i (nI (((κ w).2.2.1 + k) + 1)) (nI_add ((κ w).2.2.1 + k) 1) ?_
        refine b_put (D := D) (ci := 9) (v := .int (nI (((κ w).2.2.1 + k) + 1))) (ty := .int) (C := RX9) (T := TX9) (N := 18) hx hb hts iX9_append_9 tyX9 tyX9_ok nmX9 hown hN hB 0 rfl rfl 2 (by decide) (hts _ mX9_append_2) (fun _ h9 => h9) rfl (by decide +kernel) rfl rfl (Nat.le_of_ble_eq_true rfl) (.inr ⟨rfl, List.mem_of_getElem? (i := 1) rfl⟩) dX9_append_111 (fun H locs hB => ?_)
        have hB : Bx B0 D _ [(w, .inr (9, [.int 0, .ref f1328_1, .int (nI (((κ w).2.2.1 + k) + 1)), .int (nI f1328_3), .int (nI f1328_4), .int f1328_5, .int f1328_6, .int f1328_7, .ref (κ w).2.2.2, .ref f1328_9, .ref f1328_10, .ref f1328_11, .int (nI f1328_12), .int f1328_13, .int f1328_14, .int f1328_15, .int f1328_16, .ref f1328_17])), (f1328_1, .inl (cs 0, 600, .inl g1356))] [f1328_1, w] _ _ := hB
        refine lv_iinc (v := (nI (k + 1))) (lv' := [(6, .int (nI (k + 1))), (7, .int x), (0, .ref w), (1, .int x), (2, .int y), (3, .int z), (4, .int u), (5, .int v)]) hx hb dX9_append_114 hl (k := 1) rfl (nI_add _ 1) (by decide) rfl (fun ls hl => ?_)
        refine lv_goto (tgt := 23) hx hb dX9_append_117 (by decide) ?_
        exact ih1331 ((k + 1), g1356) _ _ _ (by show 20 - ((k + 1)) < 20 - k; omega) ⟨(by show ((k + 1)) ≤ 20; omega), hB⟩ (lv_sub hl [0, 2, 3, 4, 5, 6, 7] rfl)
  · have c1329 : ¬ (((κ w).2.2.1) + 20) ≤ 600 := fun h9 => c1329 ((nI_leI (a := (((κ w).2.2.1) + 20)) (b := 600) (by omega) (by omega)).mpr h9)
    refine lv_iconst (v := (-1)) hx hb dX9_append_18 (by decide) ?_
    have hT : WT B0 D cs T κ _ := hT.close hB ⟨⟨0, _, rfl, ok_10 hw.1 ⟨_, _, _, _, _, _, _, _, _, _, _, _, _, _, _, _, rfl, (by omega), (by omega), (by omega), (by omega), t1328_1, t1328_8, t1328_9, c1328_sd, t1328_10, t1328_11, t1328_17⟩⟩, trivial⟩
    have hF : Fr B0 [12, 14] κ H0 _ := hF.close hB (fa_c (by simp [hw.2]) fa_n)
    have hL : OkL B0 _ := hB.2.2.2.2.2
    have hP : va_P D vwCl [(w, .inr (9, [.int 0, .ref f1328_1, .int (nI ((κ w).2.2.1)), .int (nI f1328_3), .int (nI f1328_4), .int f1328_5, .int f1328_6, .int f1328_7, .ref (κ w).2.2.2, .ref f1328_9, .ref f1328_10, .ref f1328_11, .int (nI f1328_12), .int f1328_13, .int f1328_14, .int f1328_15, .int f1328_16, .ref f1328_17]))] _ := hB.1
    exact en_i hx hb hr hlocks hL rfl (Nat.zero_le _) (Nat.zero_le _) dX9_append_19 ((Or.inl ⟨rfl, by omega, hT, hF⟩))
