theorem mJ7_copyOf_59c91_7 : (.arrayClass .int : Cond) ∈ wsJ7_copyOf_59c91 := List.mem_of_getElem? (i := 7) (by decide +kernel)
theorem mJ7_copyOf_59c91_8 : (.methodLink RJ7 304 Lib.Math.min.name : Cond) ∈ wsJ7_copyOf_59c91 := List.mem_of_getElem? (i := 8) (by decide +kernel)
theorem mJ7_copyOf_59c91_9 : (.static Lib.Math.min.name : Cond) ∈ wsJ7_copyOf_59c91 := List.mem_of_getElem? (i := 9) (by decide +kernel)
theorem mJ7_copyOf_59c91_10 : (.initialized "java/lang/Math" : Cond) ∈ wsJ7_copyOf_59c91 := List.mem_of_getElem? (i := 10) (by decide +kernel)
theorem mJ7_copyOf_59c91_11 : (.code Lib.Math.min.name Lib.Math.min.code 2 (some .int) : Cond) ∈ wsJ7_copyOf_59c91 := List.mem_of_getElem? (i := 11) (by decide +kernel)
theorem mJ7_copyOf_59c91_12 : (.methodLink RJ7 150 arraycopyName : Cond) ∈ wsJ7_copyOf_59c91 := List.mem_of_getElem? (i := 12) (by decide +kernel)
theorem mJ7_copyOf_59c91_13 : (.native arraycopyName : Cond) ∈ wsJ7_copyOf_59c91 := List.mem_of_getElem? (i := 13) (by decide +kernel)
theorem mJ7_copyOf_59c91_14 : (.static arraycopyName : Cond) ∈ wsJ7_copyOf_59c91 := List.mem_of_getElem? (i := 14) (by decide +kernel)
theorem mJ7_copyOf_59c91_15 : (.initialized "java/lang/System" : Cond) ∈ wsJ7_copyOf_59c91 := List.mem_of_getElem? (i := 15) (by decide +kernel)
theorem mJ7_copyOf_59c91_1 : (.methodLink RJ7 316 ⟨"[I", "clone", "()Ljava/lang/Object;"⟩ : Cond) ∈ wsJ7_copyOf_59c91 := List.mem_of_getElem? (i := 1) (by decide +kernel)
theorem mJ7_copyOf_59c91_2 : (.sameMethod "[I" "java/lang/Object" "clone" "()Ljava/lang/Object;" : Cond) ∈ wsJ7_copyOf_59c91 := List.mem_of_getElem? (i := 2) (by decide +kernel)
theorem mJ7_copyOf_59c91_3 : (.native ⟨"java/lang/Object", "clone", "()Ljava/lang/Object;"⟩ : Cond) ∈ wsJ7_copyOf_59c91 := List.mem_of_getElem? (i := 3) (by decide +kernel)
theorem mJ7_copyOf_59c91_4 : (.instanceMethod ⟨"java/lang/Object", "clone", "()Ljava/lang/Object;"⟩ : Cond) ∈ wsJ7_copyOf_59c91 := List.mem_of_getElem? (i := 4) (by decide +kernel)
theorem mJ7_copyOf_59c91_5 : (.selects "[I" ⟨"[I", "clone", "()Ljava/lang/Object;"⟩ ⟨"java/lang/Object", "clone", "()Ljava/lang/Object;"⟩ : Cond) ∈ wsJ7_copyOf_59c91 := List.mem_of_getElem? (i := 5) (by decide +kernel)
theorem mJ7_copyOf_59c91_6 : (.classLink RJ7 317 "[I" : Cond) ∈ wsJ7_copyOf_59c91 := List.mem_of_getElem? (i := 6) (by decide +kernel)
set_option maxHeartbeats 4000000 in
set_option maxRecDepth 100000 in
theorem c_J7_copyOf_59c91 {l : Launch} {D : va_G} {cs : Nat → ClassId} {B0 : Nat} {H0 : Heap} {v n : Nat} {g : Nat → Int32} (hvb : B0 ≤ v) (hva : va_at D vwCl (v, .inl (cs 0, 600, .inl g)) H0) (hn : n ≤ 600) : KC l yJ7_copyOf_59c91 wsJ7_copyOf_59c91 1 60 1 600 D cs B0 H0 [.ref v, .int (nI n)] (Qr (fun r H => r = H0.size ∧ H.size = r + 1 ∧ (∀ x, x < r → H[x]? = H0[x]?) ∧ ∃ f, va_at D vwCl (r, .inl (cs 0, n, .inl f)) H)) := by
  refine KC.of cJ7_copyOf_59c91 3 (some (.array .int)) (by decide) rfl (Nat.le_of_ble_eq_true rfl) ?_
  intro p e s m below meth c ls hx hb hr hml hown hts hlocks hin hN hE hH0 hl
  have hown : s.vm.findClass RJ7 = some m.cls := hown
  have hl : lv_has ls 3 [(0, .ref v), (1, .int (nI n))] := hl
  have hL : OkL B0 [] := OkL.nil
  have hP : va_P D vwCl [(v, .inl (cs 0, 600, .inl g))] _ := va_P.cons hva va_P.nil
  have hb0 : B0 ≤ H0.size := Nat.le_trans hvb (Nat.le_of_lt hva.lt)
  refine lv_iload_n hx hb dJ7_copyOf_59c91_0 rfl (lv_at hl 1 rfl) ?_
  refine lv_aload_n hx hb dJ7_copyOf_59c91_1 rfl (lv_at hl 0 rfl) ?_
  refine va_alen (v := 600) hx hb hN.1 hP 0 0 rfl rfl rfl dJ7_copyOf_59c91_2 ?_
  refine lv_icmp_ne (tgt := 14) hx hb dJ7_copyOf_59c91_3 (by decide) (fun c5281 => ?_) (fun c5281 => ?_)
  · have c5281 : ¬ n = 600 := fun h9 => c5281 ((nI_eq (a := n) (b := 600) (by omega) (by omega)).mpr h9)
    refine lv_iload_n hx hb dJ7_copyOf_59c91_14 rfl (lv_at hl 1 rfl) ?_
    have hB : Bx B0 D _ [(v, .inl (cs 0, 600, .inl g))] [] _ _ := Bx.of (fun a => a) hL hP (fa_c hvb fa_n) (by simp)
    refine nw_a (atype := .int) (ty := .int) (N' := n) (a0 := (n, .inl (fun _ => 0))) 0 hN rfl hx hb (hts _ mJ7_copyOf_59c91_7) rfl (fun _ => rfl) (nI_pos (n := n) (by omega)) (nI_clamp (n := n) (by omega)) (show n * _ ≤ _ by simp only [componentBytes]; omega) (show 0 + 1 ≤ 1 by omega) (show 0 + n ≤ 600 by omega) dJ7_copyOf_59c91_15 (fun q5282 H heq5282 hzq5282 hoq5282 hatq5282 => ?_)
    have hB := hB.nwm heq5282 hzq5282 hoq5282 hatq5282 hb0
    have hB : Bx B0 D _ [(v, .inl (cs 0, 600, .inl g)), (q5282, .inl (cs 0, n, .inl (fun _ => 0)))] [q5282] _ _ := hB
    refine lv_astore_n (lv' := [(2, .ref q5282), (0, .ref v), (1, .int (nI n))]) hx hb dJ7_copyOf_59c91_17 rfl hl (by decide) rfl (fun ls hl => ?_)
    refine lv_aload_n hx hb dJ7_copyOf_59c91_18 rfl (lv_at hl 1 rfl) ?_
    refine lv_iconst (v := 0) hx hb dJ7_copyOf_59c91_19 (by decide) ?_
    refine lv_aload_n hx hb dJ7_copyOf_59c91_20 rfl (lv_at hl 0 rfl) ?_
    refine lv_iconst (v := 0) hx hb dJ7_copyOf_59c91_21 (by decide) ?_
    refine lv_aload_n hx hb dJ7_copyOf_59c91_22 rfl (lv_at hl 1 rfl) ?_
    refine va_alen (v := 600) hx hb hN.1 hB.1 0 0 rfl rfl rfl dJ7_copyOf_59c91_23 ?_
    refine lv_iload_n hx hb dJ7_copyOf_59c91_24 rfl (lv_at hl 2 rfl) ?_
    refine va_mmin hx hb (hml.trans hl.1.symm) hown (hts _ mJ7_copyOf_59c91_8) (hts _ mJ7_copyOf_59c91_9) (hts _ mJ7_copyOf_59c91_10) (hts _ mJ7_copyOf_59c91_11) (Nat.le_of_ble_eq_true rfl) (Nat.le_of_ble_eq_true rfl) (show 1 ≤ 1 by omega) (show (0 + n) ≤ 600 by omega) dJ7_copyOf_59c91_25 ?_
    obtain ⟨m5283, hm5283, em5283⟩ := nI_min (a := 600) (b := n) (by omega) (by omega)
    refine tp_i (nI m5283) em5283 ?_
    refine b_cpy hx hb (hml.trans hl.1.symm) hown (hts _ mJ7_copyOf_59c91_12) (hts _ mJ7_copyOf_59c91_13) (hts _ mJ7_copyOf_59c91_14) (hts _ mJ7_copyOf_59c91_15) hN hB 0 1 rfl rfl (nI_pos (n := 0) (by omega)) (nI_pos (n := 0) (by omega)) (nI_pos (n := m5283) (by omega)) (by rw [show (0 : Int32).toNatClampNeg = 0 from nI_clamp (n := 0) (by omega), show ((nI m5283) : Int32).toNatClampNeg = m5283 from nI_clamp (n := m5283) (by omega)]; omega) (by rw [show (0 : Int32).toNatClampNeg = 0 from nI_clamp (n := 0) (by omega), show ((nI m5283) : Int32).toNatClampNeg = m5283 from nI_clamp (n := m5283) (by omega)]; omega) (.inr ⟨rfl, List.mem_of_getElem? (i := 0) rfl⟩) (Nat.le_of_ble_eq_true rfl) (Nat.le_of_ble_eq_true rfl) dJ7_copyOf_59c91_28 (fun H locs hB => ?_)
    generalize va_cpy _ _ _ _ _ = g5284 at hB
    have hB : Bx B0 D _ [(v, .inl (cs 0, 600, .inl g)), (q5282, .inl (cs 0, n, .inl g5284))] [q5282] _ _ := hB
    refine lv_aload_n hx hb dJ7_copyOf_59c91_31 rfl (lv_at hl 0 rfl) ?_
    have hL : OkL B0 _ := hB.2.2.2.2.2
    refine W.know (fun hg => ?_)
    rw [hH0] at hg
    exact en_r hx hb hr hlocks (by first | exact Or.inl ⟨_, rfl⟩ | exact Or.inr ⟨_, rfl⟩) hL (show 1 ≤ 1 by omega) (show (0 + n) ≤ 600 by omega) dJ7_copyOf_59c91_32 (⟨heq5282, (by have h1 := hg.2.1; have h2 := (hB.1 1 _ rfl).lt; have h2 : q5282 < _ := h2; omega), (fun x hx9 => hB.2.2.2.1 x (by omega) (by simp; omega)), _, hB.1 1 _ rfl⟩)
  · have c5281 : n = 600 := (nI_eq (a := n) (b := 600) (by omega) (by omega)).mp c5281
    refine lv_aload_n hx hb dJ7_copyOf_59c91_6 rfl (lv_at hl 0 rfl) ?_
    refine nw_cl hx hb (hml.trans hl.1.symm) hown (hts _ mJ7_copyOf_59c91_1) (hts _ mJ7_copyOf_59c91_2) (hts _ mJ7_copyOf_59c91_3) (hts _ mJ7_copyOf_59c91_4) (hts _ mJ7_copyOf_59c91_5) hN (hP 0 _ rfl) (Nat.le_of_ble_eq_true rfl) (Nat.le_of_ble_eq_true rfl) (show 0 + 1 ≤ 1 by omega) (show 0 + 600 ≤ 600 by omega) dJ7_copyOf_59c91_7 (fun q5285 H heq5285 hzq5285 hoq5285 hatq5285 => ?_)
    refine nw_ca hx hb hown (hts _ mJ7_copyOf_59c91_6) hN hatq5285 dJ7_copyOf_59c91_10 ?_
    refine W.know (fun hg => ?_)
    rw [hH0] at hg
    obtain rfl : n = 600 := c5281
    exact en_r hx hb hr hlocks (by first | exact Or.inl ⟨_, rfl⟩ | exact Or.inr ⟨_, rfl⟩) hL (show 1 ≤ 1 by omega) (show (0 + 600) ≤ 600 by omega) dJ7_copyOf_59c91_13 (⟨heq5285, hzq5285, hoq5285, _, hatq5285⟩)
theorem mX0_init_1 : (.methodLink RX0 1 objectInit : Cond) ∈ wsX0_init := List.mem_of_getElem? (i := 1) (by decide +kernel)
theorem mX0_init_2 : (.instanceMethod objectInit : Cond) ∈ wsX0_init := List.mem_of_getElem? (i := 2) (by decide +kernel)
theorem mX0_init_3 : (.code objectInit ⟨#[0xb1]⟩ 1 none : Cond) ∈ wsX0_init := List.mem_of_getElem? (i := 3) (by decide +kernel)
theorem mX0_init_4 : (.arrayClass .int : Cond) ∈ wsX0_init := List.mem_of_getElem? (i := 4) (by decide +kernel)
theorem mX0_init_5 : (.fieldLink RX0 9 "OneBeat$Formula" "stack" "[I" : Cond) ∈ wsX0_init := List.mem_of_getElem? (i := 5) (by decide +kernel)
theorem iX0_init_0 : ∀ w ∈ wsX00, w ∈ wsX0_init := fun w h => List.mem_of_mem_drop (List.mem_of_mem_take ((show wsX00 = (wsX0_init.drop 25).take 2 by decide +kernel) ▸ h))
theorem hdJ7_copyOf_59c91_o : yJ7_copyOf_59c91.cls ≠ "java/lang/invoke/MethodHandle" ∧ yJ7_copyOf_59c91.cls ≠ "java/lang/invoke/VarHandle" ∧ (parseMethodDescriptor yJ7_copyOf_59c91.desc).map (fun d => d.parameters.length) = some 2 := by decide +kernel
theorem mX0_init_6 : (.fieldLink RX0 19 "OneBeat$Formula" "codes" "[I" : Cond) ∈ wsX0_init := List.mem_of_getElem? (i := 6) (by decide +kernel)
set_option maxHeartbeats 4000000 in
set_option maxRecDepth 100000 in
theorem c_X0_init {l : Launch} {D : va_G} {cs : Nat → ClassId} {B0 T : Nat} {κ : KM} {H0 : Heap} (hT : WT B0 D cs T κ H0) {w : Nat} (hfw : (κ w).1 = 0) (hwb : B0 ≤ w) (hwa : va_at D vwCl (w, .inr (0, [.null, .null])) H0) {v n : Nat} (hv : T2 κ v 17 10) (hn : n ≤ 600) : KC l yX0_init wsX0_init 2 82 2 616 D cs B0 H0 [.ref w, .ref v, .int (nI n)] (Qv (fun H => ∃ κ1, KX κ κ1 ∧ WT B0 D cs T κ1 H ∧ Fr B0 [] κ H0 H ∧ T2 κ1 w 1 15)) := by
  refine KC.of cX0_init 3 none (by decide) rfl (Nat.le_of_ble_eq_true rfl) ?_
  intro p e s m below meth c ls hx hb hr hml hown hts hlocks hin hN hE hH0 hl
  have hown : s.vm.findClass RX0 = some m.cls := hown
  have hl : lv_has ls 3 [(0, .ref w), (1, .ref v), (2, .int (nI n))] := hl
  have hL : OkL B0 [] := OkL.nil
  have hF : Fr B0 [] κ H0 H0 := Fr.rf
  have hP : va_P D vwCl [(w, .inr (0, [.null, .null]))] _ := va_P.cons hwa va_P.nil
  have hb0 : B0 ≤ H0.size := Nat.le_trans hwb (Nat.le_of_lt hwa.lt)
  refine lv_aload_n hx hb dX0_init_0 rfl (lv_at hl 0 rfl) ?_
  refine W.objInit hx hb hown (hts _ mX0_init_1) (hts _ mX0_init_2) (hts _ mX0_init_3) rfl (by rw [hml]; exact hl.1) rfl dX0_init_1 (Nat.le_of_ble_eq_true rfl) (Nat.le_of_ble_eq_true rfl) ?_
  refine W.eq (g2 := F0 m 4 ls []) rfl ?_
  refine lv_aload_n hx hb dX0_init_4 rfl (lv_at hl 0 rfl) ?_
  refine lv_bipush (v := 16) hx hb dX0_init_5 (by decide) ?_
  have hB : Bx B0 D _ [(w, .inr (0, [.null, .null]))] [] _ _ := Bx.of (fun a => (κ a).1) hL hP (fa_c hwb fa_n) (by simp only [List.map_cons, List.map_nil, hfw]; decide)
  refine nw_a (atype := .int) (ty := .int) (N' := 16) (a0 := (16, .inl (fun _ => 0))) 0 hN rfl hx hb (hts _ mX0_init_4) rfl (fun _ => rfl) (nI_pos (n := 16) (by omega)) (nI_clamp (n := 16) (by omega)) (show 16 * _ ≤ _ by simp only [componentBytes]; omega) (show 0 + 1 ≤ 2 by omega) (show 0 + 16 ≤ 616 by omega) dX0_init_7 (fun q5286 H heq5286 hzq5286 hoq5286 hatq5286 => ?_)
  have hgeq5286 : _ ≤ q5286 := Nat.le_trans hB.2.2.1 (Nat.le_of_eq heq5286.symm)
  have hbq5286 : B0 ≤ q5286 := Nat.le_trans hb0 hgeq5286
  have hfq5286 : (κ q5286).1 = 0 := hT.fresh hgeq5286
  have hB := hB.nwm heq5286 hzq5286 hoq5286 hatq5286 hb0
  have hB : Bx B0 D _ [(w, .inr (0, [.null, .null])), (q5286, .inl (cs 0, 16, .inl (fun _ => 0)))] [q5286] _ _ := hB
  refine b_putF (D := D) (ci := 0) (v := .ref q5286) (ty := .array .int) (C := RX0) (T := TX0) (N := 2) hx hb hts iX0_init_0 tyX0 tyX0_ok nmX0 hown hN hB 0 rfl rfl 1 (by decide) (hts _ mX0_init_5) (fun _ h9 => h9) rfl hin rfl (by decide +kernel) rfl rfl (Nat.le_of_ble_eq_true rfl) (.inl rfl) dX0_init_9 (fun H locs hB => ?_)
  have hB : Bx B0 D _ [(w, .inr (0, [.null, .ref q5286])), (q5286, .inl (cs 0, 16, .inl (fun _ => 0)))] [w, q5286] _ _ := hB
  refine lv_aload_n hx hb dX0_init_12 rfl (lv_at hl 0 rfl) ?_
  refine lv_aload_n hx hb dX0_init_13 rfl (lv_at hl 1 rfl) ?_
  refine lv_iload_n hx hb dX0_init_14 rfl (lv_at hl 2 rfl) ?_
  refine lv_if_ge (tgt := 22) hx hb dX0_init_15 (by decide) (fun c5287 => ?_) (fun c5287 => ?_)
  · have c5287 : 0 ≤ n := (nI_leI (a := 0) (b := n) (by omega) (by omega)).mp c5287
    refine lv_iload_n hx hb dX0_init_22 rfl (lv_at hl 2 rfl) ?_
    obtain ⟨hb5288, e5288, hat5288, hk5288⟩ := hT.o17 hv.1
    obtain ⟨g5288, rfl⟩ := hk5288
    have hB : Bx B0 D _ [(w, .inr (0, [.null, .ref q5286])), (q5286, .inl (cs 0, 16, .inl (fun _ => 0))), (v, .inl (cs 0, 600, .inl g5288))] [w, q5286] _ _ := hB.more hat5288 hb5288 (fa_c (ne_c hfw hv.1 (by decide))  (fa_c (nw_ne hat5288 hgeq5286) fa_n)) (fa_c (ne_c hfw hv.1 (by decide))  (fa_c (nw_ne hat5288 hgeq5286) fa_n))
    have hL : OkL B0 _ := hB.2.2.2.2.2
    refine cs_r (As := [.ref v, .int (nI n)]) (rest := [.ref w]) ⟨hx, hb, hml, hown, hts⟩ (c_J7_copyOf_59c91 (v := v) (n := n) hb5288 (hB.1 2 _ rfl) (by omega)) (va_cwS 2 hts gX0_init_J7_copyOf_59c91 rfl rfl rfl hdJ7_copyOf_59c91_o ⟨Nat.le_of_ble_eq_true rfl, Nat.le_of_ble_eq_true rfl⟩) hN hE hL rfl rfl hl.1 (Nat.le_of_ble_eq_true rfl) dX0_init_23 (show 1 + 1 ≤ 2 by omega) (show (0 + 16) + 600 ≤ 616 by omega) (fun q5289 H1 locs hL hqq5289 => ?_)
    obtain ⟨heq5289, hzq5289, hoq5289, gq5289, hatq5289⟩ := hqq5289
    have hB := hB.lc hL
    have hgeq5289 : _ ≤ q5289 := Nat.le_trans hB.2.2.1 (Nat.le_of_eq heq5289.symm)
    have hbq5289 : B0 ≤ q5289 := Nat.le_trans hb0 hgeq5289
    have hfq5289 : (κ q5289).1 = 0 := hT.fresh hgeq5289
    have hB := hB.nwm heq5289 hzq5289 hoq5289 hatq5289 hb0
    have hB : Bx B0 D _ [(w, .inr (0, [.null, .ref q5286])), (q5286, .inl (cs 0, 16, .inl (fun _ => 0))), (v, .inl (cs 0, 600, .inl g5288)), (q5289, .inl (cs 0, n, .inl gq5289))] [q5289, w, q5286] _ _ := hB
    refine b_putF (D := D) (ci := 0) (v := .ref q5289) (ty := .array .int) (C := RX0) (T := TX0) (N := 2) hx hb hts iX0_init_0 tyX0 tyX0_ok nmX0 hown hN hB 0 rfl rfl 0 (by decide) (hts _ mX0_init_6) (fun _ h9 => h9) rfl hin rfl (by decide +kernel) rfl rfl (Nat.le_of_ble_eq_true rfl) (.inr ⟨rfl, List.mem_of_getElem? (i := 1) rfl⟩) dX0_init_26 (fun H locs hB => ?_)
    have hB : Bx B0 D _ [(w, .inr (0, [.ref q5289, .ref q5286])), (q5286, .inl (cs 0, 16, .inl (fun _ => 0))), (v, .inl (cs 0, 600, .inl g5288)), (q5289, .inl (cs 0, n, .inl gq5289))] [q5289, w, q5286] _ _ := hB
    obtain ⟨κ5290, hκ5290⟩ : ∃ κ9 : KM, κ9 = (ku (ku (ku κ w (1, 15, 0, 0)) q5286 (22, 16, 0, 0)) q5289 (21, 15, 0, 0)) := ⟨_, rfl⟩
    have hx5290 : KX κ κ5290 := by rw [hκ5290]; exact (((KX.ku hfw).tr (KX.ku (by rw [ku_n (fun e9 => absurd (hB.2.1.1 1 0 _ _ rfl rfl e9) (by decide))]; exact hfq5286))).tr (KX.ku (by rw [ku_n (fun e9 => absurd (hB.2.1.1 3 1 _ _ rfl rfl e9) (by decide)), ku_n (fun e9 => absurd (hB.2.1.1 3 0 _ _ rfl rfl e9) (by decide))]; exact hfq5289)))
    have ew : κ5290 w = (1, 15, 0, 0) := by rw [hκ5290, ku_n (fun e9 => absurd (hB.2.1.1 0 3 _ _ rfl rfl e9) (by decide)), ku_n (fun e9 => absurd (hB.2.1.1 0 1 _ _ rfl rfl e9) (by decide)), ku_a]
    have hw : T2 κ5290 w 1 15 := ⟨by rw [ew], by rw [ew]⟩
    have eq5286 : κ5290 q5286 = (22, 16, 0, 0) := by rw [hκ5290, ku_n (fun e9 => absurd (hB.2.1.1 1 3 _ _ rfl rfl e9) (by decide)), ku_a]
    have hq5286 : T2 κ5290 q5286 22 16 := ⟨by rw [eq5286], by rw [eq5286]⟩
    have eq5289 : κ5290 q5289 = (21, 15, 0, 0) := by rw [hκ5290, ku_a]
    have hq5289 : T2 κ5290 q5289 21 15 := ⟨by rw [eq5289], by rw [eq5289]⟩
    have hx9 := hx5290
    have hT : WT B0 D cs T κ5290 _ := hT.closeN hB hx5290 (fun a9 h9 => by rw [hκ5290, ku_n (fun e9 => h9 (by rw [e9]; exact List.mem_of_getElem? (i := 0) rfl)), ku_n (fun e9 => h9 (by rw [e9]; exact List.mem_of_getElem? (i := 2) rfl)), ku_n (fun e9 => h9 (by rw [e9]; exact List.mem_of_getElem? (i := 1) rfl))]) ⟨⟨3, _, rfl, ok_21 hq5289.1 ⟨_, _, rfl, (by omega)⟩⟩, ⟨⟨0, _, rfl, ok_1 hw.1 ⟨_, _, rfl, hq5289, hq5286⟩⟩, ⟨⟨1, _, rfl, ok_22 hq5286.1 ⟨_, rfl⟩⟩, trivial⟩⟩⟩
    have hF : Fr B0 [] κ H0 _ := hF.closeN hB (fa_c (fun h9 => absurd hfq5289 h9) (fa_c (fun h9 => absurd hfw h9) (fa_c (fun h9 => absurd hfq5286 h9) fa_n)))
    have hL : OkL B0 _ := hB.2.2.2.2.2
    have hKF : KF κ κ5290 := hx5290.f
    have hKX : KX κ κ5290 := hx5290
    have hv := (hx5290.f.t2 hv (by decide))
    have hP : va_P D vwCl [(w, .inr (0, [.ref q5289, .ref q5286])), (q5286, .inl (cs 0, 16, .inl (fun _ => 0))), (v, .inl (cs 0, 600, .inl g5288)), (q5289, .inl (cs 0, n, .inl gq5289))] _ := hB.1
    exact en_v hx hb hr hlocks hL (show 2 ≤ 2 by omega) (show ((0 + 16) + 600) ≤ 616 by omega) dX0_init_29 (⟨_, hKX, hT, hF, hw⟩)
  · have c5287 : ¬ 0 ≤ n := fun h9 => c5287 ((nI_leI (a := 0) (b := n) (by omega) (by omega)).mpr h9)
    refine lv_iconst (v := 0) hx hb dX0_init_18 (by decide) ?_
    refine lv_goto (tgt := 23) hx hb dX0_init_19 (by decide) ?_
    obtain ⟨hb5291, e5291, hat5291, hk5291⟩ := hT.o17 hv.1
    obtain ⟨g5291, rfl⟩ := hk5291
    have hB : Bx B0 D _ [(w, .inr (0, [.null, .ref q5286])), (q5286, .inl (cs 0, 16, .inl (fun _ => 0))), (v, .inl (cs 0, 600, .inl g5291))] [w, q5286] _ _ := hB.more hat5291 hb5291 (fa_c (ne_c hfw hv.1 (by decide))  (fa_c (nw_ne hat5291 hgeq5286) fa_n)) (fa_c (ne_c hfw hv.1 (by decide))  (fa_c (nw_ne hat5291 hgeq5286) fa_n))
    have hL : OkL B0 _ := hB.2.2.2.2.2
    refine cs_r (As := [.ref v, .int 0]) (rest := [.ref w]) ⟨hx, hb, hml, hown, hts⟩ (c_J7_copyOf_59c91 (v := v) (n := 0) hb5291 (hB.1 2 _ rfl) (by omega)) (va_cwS 2 hts gX0_init_J7_copyOf_59c91 rfl rfl rfl hdJ7_copyOf_59c91_o ⟨Nat.le_of_ble_eq_true rfl, Nat.le_of_ble_eq_true rfl⟩) hN hE hL rfl rfl hl.1 (Nat.le_of_ble_eq_true rfl) dX0_init_23 (show 1 + 1 ≤ 2 by omega) (show (0 + 16) + 600 ≤ 616 by omega) (fun q5292 H1 locs hL hqq5292 => ?_)
    obtain ⟨heq5292, hzq5292, hoq5292, gq5292, hatq5292⟩ := hqq5292
    have hB := hB.lc hL
    have hgeq5292 : _ ≤ q5292 := Nat.le_trans hB.2.2.1 (Nat.le_of_eq heq5292.symm)
    have hbq5292 : B0 ≤ q5292 := Nat.le_trans hb0 hgeq5292
    have hfq5292 : (κ q5292).1 = 0 := hT.fresh hgeq5292
    have hB := hB.nwm heq5292 hzq5292 hoq5292 hatq5292 hb0
    have hB : Bx B0 D _ [(w, .inr (0, [.null, .ref q5286])), (q5286, .inl (cs 0, 16, .inl (fun _ => 0))), (v, .inl (cs 0, 600, .inl g5291)), (q5292, .inl (cs 0, 0, .inl gq5292))] [q5292, w, q5286] _ _ := hB
    refine b_putF (D := D) (ci := 0) (v := .ref q5292) (ty := .array .int) (C := RX0) (T := TX0) (N := 2) hx hb hts iX0_init_0 tyX0 tyX0_ok nmX0 hown hN hB 0 rfl rfl 0 (by decide) (hts _ mX0_init_6) (fun _ h9 => h9) rfl hin rfl (by decide +kernel) rfl rfl (Nat.le_of_ble_eq_true rfl) (.inr ⟨rfl, List.mem_of_getElem? (i := 1) rfl⟩) dX0_init_26 (fun H locs hB => ?_)
    have hB : Bx B0 D _ [(w, .inr (0, [.ref q5292, .ref q5286])), (q5286, .inl (cs 0, 16, .inl (fun _ => 0))), (v, .inl (cs 0, 600, .inl g5291)), (q5292, .inl (cs 0, 0, .inl gq5292))] [q5292, w, q5286] _ _ := hB
    obtain ⟨κ5293, hκ5293⟩ : ∃ κ9 : KM, κ9 = (ku (ku (ku κ w (1, 15, 0, 0)) q5286 (22, 16, 0, 0)) q5292 (21, 15, 0, 0)) := ⟨_, rfl⟩
    have hx5293 : KX κ κ5293 := by rw [hκ5293]; exact (((KX.ku hfw).tr (KX.ku (by rw [ku_n (fun e9 => absurd (hB.2.1.1 1 0 _ _ rfl rfl e9) (by decide))]; exact hfq5286))).tr (KX.ku (by rw [ku_n (fun e9 => absurd (hB.2.1.1 3 1 _ _ rfl rfl e9) (by decide)), ku_n (fun e9 => absurd (hB.2.1.1 3 0 _ _ rfl rfl e9) (by decide))]; exact hfq5292)))
    have ew : κ5293 w = (1, 15, 0, 0) := by rw [hκ5293, ku_n (fun e9 => absurd (hB.2.1.1 0 3 _ _ rfl rfl e9) (by decide)), ku_n (fun e9 => absurd (hB.2.1.1 0 1 _ _ rfl rfl e9) (by decide)), ku_a]
    have hw : T2 κ5293 w 1 15 := ⟨by rw [ew], by rw [ew]⟩
    have eq5286 : κ5293 q5286 = (22, 16, 0, 0) := by rw [hκ5293, ku_n (fun e9 => absurd (hB.2.1.1 1 3 _ _ rfl rfl e9) (by decide)), ku_a]
    have hq5286 : T2 κ5293 q5286 22 16 := ⟨by rw [eq5286], by rw [eq5286]⟩
    have eq5292 : κ5293 q5292 = (21, 15, 0, 0) := by rw [hκ5293, ku_a]
    have hq5292 : T2 κ5293 q5292 21 15 := ⟨by rw [eq5292], by rw [eq5292]⟩
    have hx9 := hx5293
    have hT : WT B0 D cs T κ5293 _ := hT.closeN hB hx5293 (fun a9 h9 => by rw [hκ5293, ku_n (fun e9 => h9 (by rw [e9]; exact List.mem_of_getElem? (i := 0) rfl)), ku_n (fun e9 => h9 (by rw [e9]; exact List.mem_of_getElem? (i := 2) rfl)), ku_n (fun e9 => h9 (by rw [e9]; exact List.mem_of_getElem? (i := 1) rfl))]) ⟨⟨3, _, rfl, ok_21 hq5292.1 ⟨_, _, rfl, (by omega)⟩⟩, ⟨⟨0, _, rfl, ok_1 hw.1 ⟨_, _, rfl, hq5292, hq5286⟩⟩, ⟨⟨1, _, rfl, ok_22 hq5286.1 ⟨_, rfl⟩⟩, trivial⟩⟩⟩
    have hF : Fr B0 [] κ H0 _ := hF.closeN hB (fa_c (fun h9 => absurd hfq5292 h9) (fa_c (fun h9 => absurd hfw h9) (fa_c (fun h9 => absurd hfq5286 h9) fa_n)))
    have hL : OkL B0 _ := hB.2.2.2.2.2
    have hKF : KF κ κ5293 := hx5293.f
    have hKX : KX κ κ5293 := hx5293
    have hv := (hx5293.f.t2 hv (by decide))
    have hP : va_P D vwCl [(w, .inr (0, [.ref q5292, .ref q5286])), (q5286, .inl (cs 0, 16, .inl (fun _ => 0))), (v, .inl (cs 0, 600, .inl g5291)), (q5292, .inl (cs 0, 0, .inl gq5292))] _ := hB.1
    exact en_v hx hb hr hlocks hL (show 2 ≤ 2 by omega) (show ((0 + 16) + 600) ≤ 616 by omega) dX0_init_29 (⟨_, hKX, hT, hF, hw⟩)
theorem mX6_init_1 : (.methodLink RX6 1 objectInit : Cond) ∈ wsX6_init := List.mem_of_getElem? (i := 1) (by decide +kernel)
theorem mX6_init_2 : (.instanceMethod objectInit : Cond) ∈ wsX6_init := List.mem_of_getElem? (i := 2) (by decide +kernel)
theorem mX6_init_3 : (.code objectInit ⟨#[0xb1]⟩ 1 none : Cond) ∈ wsX6_init := List.mem_of_getElem? (i := 3) (by decide +kernel)
theorem mX6_init_4 : (.arrayClass .boolean : Cond) ∈ wsX6_init := List.mem_of_getElem? (i := 4) (by decide +kernel)
theorem mX6_init_5 : (.fieldLink RX6 9 "OneBeat$Setup" "isClockTold" "[Z" : Cond) ∈ wsX6_init := List.mem_of_getElem? (i := 5) (by decide +kernel)
theorem iX6_init_6 : ∀ w ∈ wsX60, w ∈ wsX6_init := fun w h => List.mem_of_mem_drop (List.mem_of_mem_take ((show wsX60 = (wsX6_init.drop 11).take 8 by decide +kernel) ▸ h))
theorem mX6_init_6 : (.arrayClass .int : Cond) ∈ wsX6_init := List.mem_of_getElem? (i := 6) (by decide +kernel)
theorem mX6_init_7 : (.fieldLink RX6 13 "OneBeat$Setup" "offset" "[I" : Cond) ∈ wsX6_init := List.mem_of_getElem? (i := 7) (by decide +kernel)
theorem mX6_init_8 : (.fieldLink RX6 17 "OneBeat$Setup" "drift" "[I" : Cond) ∈ wsX6_init := List.mem_of_getElem? (i := 8) (by decide +kernel)
theorem mX6_init_9 : (.fieldLink RX6 20 "OneBeat$Setup" "delay" "[I" : Cond) ∈ wsX6_init := List.mem_of_getElem? (i := 9) (by decide +kernel)
theorem mX6_init_10 : (.fieldLink RX6 23 "OneBeat$Setup" "players" "I" : Cond) ∈ wsX6_init := List.mem_of_getElem? (i := 10) (by decide +kernel)
set_option maxHeartbeats 4000000 in
set_option maxRecDepth 100000 in
theorem c_X6_init {l : Launch} {D : va_G} {cs : Nat → ClassId} {B0 T : Nat} {κ : KM} {H0 : Heap} (hT : WT B0 D cs T κ H0) {w : Nat} (hfw : (κ w).1 = 0) (hwb : B0 ≤ w) (hwa : va_at D vwCl (w, .inr (6, [.int 0, .int 0, .int 0, .null, .null, .null, .null, .null])) H0) {n : Nat} (hn : n ≤ 8) : KC l yX6_init wsX6_init 1 20 4 88 D cs B0 H0 [.ref w, .int (nI n)] (Qv (fun H => ∃ κ1, KX κ κ1 ∧ WT B0 D cs T κ1 H ∧ Fr B0 [] κ H0 H ∧ T2 κ1 w 7 11 ∧ κ1 w = (7, 11, 0, 0))) := by
  refine KC.of cX6_init 2 none (by decide) rfl (Nat.le_of_ble_eq_true rfl) ?_
  intro p e s m below meth c ls hx hb hr hml hown hts hlocks hin hN hE hH0 hl
  have hown : s.vm.findClass RX6 = some m.cls := hown
  have hl : lv_has ls 2 [(0, .ref w), (1, .int (nI n))] := hl
  have hL : OkL B0 [] := OkL.nil
  have hF : Fr B0 [] κ H0 H0 := Fr.rf
  have hP : va_P D vwCl [(w, .inr (6, [.int 0, .int 0, .int 0, .null, .null, .null, .null, .null]))] _ := va_P.cons hwa va_P.nil
  have hb0 : B0 ≤ H0.size := Nat.le_trans hwb (Nat.le_of_lt hwa.lt)
  refine lv_aload_n hx hb dX6_init_0 rfl (lv_at hl 0 rfl) ?_
  refine W.objInit hx hb hown (hts _ mX6_init_1) (hts _ mX6_init_2) (hts _ mX6_init_3) rfl (by rw [hml]; exact hl.1) rfl dX6_init_1 (Nat.le_of_ble_eq_true rfl) (Nat.le_of_ble_eq_true rfl) ?_
  refine W.eq (g2 := F0 m 4 ls []) rfl ?_
  refine lv_aload_n hx hb dX6_init_4 rfl (lv_at hl 0 rfl) ?_
  refine lv_bipush (v := 8) hx hb dX6_init_5 (by decide) ?_
  have hB : Bx B0 D _ [(w, .inr (6, [.int 0, .int 0, .int 0, .null, .null, .null, .null, .null]))] [] _ _ := Bx.of (fun a => (κ a).1) hL hP (fa_c hwb fa_n) (by simp only [List.map_cons, List.map_nil, hfw]; decide)
  refine nw_a (atype := .boolean) (ty := .boolean) (N' := 8) (a0 := (8, .inl (fun _ => 0))) 2 hN rfl hx hb (hts _ mX6_init_4) rfl (fun _ => rfl) (nI_pos (n := 8) (by omega)) (nI_clamp (n := 8) (by omega)) (show 8 * _ ≤ _ by simp only [componentBytes]; omega) (show 0 + 1 ≤ 4 by omega) (show 0 + 8 ≤ 88 by omega) dX6_init_7 (fun q5294 H heq5294 hzq5294 hoq5294 hatq5294 => ?_)
  have hgeq5294 : _ ≤ q5294 := Nat.le_trans hB.2.2.1 (Nat.le_of_eq heq5294.symm)
  have hbq5294 : B0 ≤ q5294 := Nat.le_trans hb0 hgeq5294
  have hfq5294 : (κ q5294).1 = 0 := hT.fresh hgeq5294
  have hB := hB.nwm heq5294 hzq5294 hoq5294 hatq5294 hb0
  have hB : Bx B0 D _ [(w, .inr (6, [.int 0, .int 0, .int 0, .null, .null, .null, .null, .null])), (q5294, .inl (cs 2, 8, .inl (fun _ => 0)))] [q5294] _ _ := hB
  refine b_putF (D := D) (ci := 6) (v := .ref q5294) (ty := .array .boolean) (C := RX6) (T := TX6) (N := 8) hx hb hts iX6_init_6 tyX6 tyX6_ok nmX6 hown hN hB 0 rfl rfl 4 (by decide) (hts _ mX6_init_5) (fun _ h9 => h9) rfl hin rfl (by decide +kernel) rfl rfl (Nat.le_of_ble_eq_true rfl) (.inl rfl) dX6_init_9 (fun H locs hB => ?_)
  have hB : Bx B0 D _ [(w, .inr (6, [.int 0, .int 0, .int 0, .null, .ref q5294, .null, .null, .null])), (q5294, .inl (cs 2, 8, .inl (fun _ => 0)))] [w, q5294] _ _ := hB
  refine lv_aload_n hx hb dX6_init_12 rfl (lv_at hl 0 rfl) ?_
  refine lv_bipush (v := 8) hx hb dX6_init_13 (by decide) ?_
  refine nw_a (atype := .int) (ty := .int) (N' := 8) (a0 := (8, .inl (fun _ => 0))) 0 hN rfl hx hb (hts _ mX6_init_6) rfl (fun _ => rfl) (nI_pos (n := 8) (by omega)) (nI_clamp (n := 8) (by omega)) (show 8 * _ ≤ _ by simp only [componentBytes]; omega) (show 1 + 1 ≤ 4 by omega) (show (0 + 8) + 8 ≤ 88 by omega) dX6_init_15 (fun q5295 H heq5295 hzq5295 hoq5295 hatq5295 => ?_)
  have hgeq5295 : _ ≤ q5295 := Nat.le_trans hB.2.2.1 (Nat.le_of_eq heq5295.symm)
  have hbq5295 : B0 ≤ q5295 := Nat.le_trans hb0 hgeq5295
  have hfq5295 : (κ q5295).1 = 0 := hT.fresh hgeq5295
  have hB := hB.nwm heq5295 hzq5295 hoq5295 hatq5295 hb0
  have hB : Bx B0 D _ [(w, .inr (6, [.int 0, .int 0, .int 0, .null, .ref q5294, .null, .null, .null])), (q5294, .inl (cs 2, 8, .inl (fun _ => 0))), (q5295, .inl (cs 0, 8, .inl (fun _ => 0)))] [q5295, w, q5294] _ _ := hB
  refine b_putF (D := D) (ci := 6) (v := .ref q5295) (ty := .array .int) (C := RX6) (T := TX6) (N := 8) hx hb hts iX6_init_6 tyX6 tyX6_ok nmX6 hown hN hB 0 rfl rfl 5 (by decide) (hts _ mX6_init_7) (fun _ h9 => h9) rfl hin rfl (by decide +kernel) rfl rfl (Nat.le_of_ble_eq_true rfl) (.inr ⟨rfl, List.mem_of_getElem? (i := 1) rfl⟩) dX6_init_17 (fun H locs hB => ?_)
  have hB : Bx B0 D _ [(w, .inr (6, [.int 0, .int 0, .int 0, .null, .ref q5294, .ref q5295, .null, .null])), (q5294, .inl (cs 2, 8, .inl (fun _ => 0))), (q5295, .inl (cs 0, 8, .inl (fun _ => 0)))] [q5295, w, q5294] _ _ := hB
  refine lv_aload_n hx hb dX6_init_20 rfl (lv_at hl 0 rfl) ?_
  refine lv_bipush (v := 8) hx hb dX6_init_21 (by decide) ?_
  refine nw_a (atype := .int) (ty := .int) (N' := 8) (a0 := (8, .inl (fun _ => 0))) 0 hN rfl hx hb (hts _ mX6_init_6) rfl (fun _ => rfl) (nI_pos (n := 8) (by omega)) (nI_clamp (n := 8) (by omega)) (show 8 * _ ≤ _ by simp only [componentBytes]; omega) (show 2 + 1 ≤ 4 by omega) (show ((0 + 8) + 8) + 8 ≤ 88 by omega) dX6_init_23 (fun q5296 H heq5296 hzq5296 hoq5296 hatq5296 => ?_)
  have hgeq5296 : _ ≤ q5296 := Nat.le_trans hB.2.2.1 (Nat.le_of_eq heq5296.symm)
  have hbq5296 : B0 ≤ q5296 := Nat.le_trans hb0 hgeq5296
  have hfq5296 : (κ q5296).1 = 0 := hT.fresh hgeq5296
  have hB := hB.nwm heq5296 hzq5296 hoq5296 hatq5296 hb0
  have hB : Bx B0 D _ [(w, .inr (6, [.int 0, .int 0, .int 0, .null, .ref q5294, .ref q5295, .null, .null])), (q5294, .inl (cs 2, 8, .inl (fun _ => 0))), (q5295, .inl (cs 0, 8, .inl (fun _ => 0))), (q5296, .inl (cs 0, 8, .inl (fun _ => 0)))] [q5296, q5295, w, q5294] _ _ := hB
  refine b_putF (D := D) (ci := 6) (v := .ref q5296) (ty := .array .int) (C := RX6) (T := TX6) (N := 8) hx hb hts iX6_init_6 tyX6 tyX6_ok nmX6 hown hN hB 0 rfl rfl 6 (by decide) (hts _ mX6_init_8) (fun _ h9 => h9) rfl hin rfl (by decide +kernel) rfl rfl (Nat.le_of_ble_eq_true rfl) (.inr ⟨rfl, List.mem_of_getElem? (i := 2) rfl⟩) dX6_init_25 (fun H locs hB => ?_)
  have hB : Bx B0 D _ [(w, .inr (6, [.int 0, .int 0, .int 0, .null, .ref q5294, .ref q5295, .ref q5296, .null])), (q5294, .inl (cs 2, 8, .inl (fun _ => 0))), (q5295, .inl (cs 0, 8, .inl (fun _ => 0))), (q5296, .inl (cs 0, 8, .inl (fun _ => 0)))] [q5296, q5295, w, q5294] _ _ := hB
  refine lv_aload_n hx hb dX6_init_28 rfl (lv_at hl 0 rfl) ?_
  refine lv_bipush (v := 64) hx hb dX6_init_29 (by decide) ?_
  refine nw_a (atype := .int) (ty := .int) (N' := 64) (a0 := (64, .inl (fun _ => 0))) 0 hN rfl hx hb (hts _ mX6_init_6) rfl (fun _ => rfl) (nI_pos (n := 64) (by omega)) (nI_clamp (n := 64) (by omega)) (show 64 * _ ≤ _ by simp only [componentBytes]; omega) (show 3 + 1 ≤ 4 by omega) (show (((0 + 8) + 8) + 8) + 64 ≤ 88 by omega) dX6_init_31 (fun q5297 H heq5297 hzq5297 hoq5297 hatq5297 => ?_)
  have hgeq5297 : _ ≤ q5297 := Nat.le_trans hB.2.2.1 (Nat.le_of_eq heq5297.symm)
  have hbq5297 : B0 ≤ q5297 := Nat.le_trans hb0 hgeq5297
  have hfq5297 : (κ q5297).1 = 0 := hT.fresh hgeq5297
  have hB := hB.nwm heq5297 hzq5297 hoq5297 hatq5297 hb0
  have hB : Bx B0 D _ [(w, .inr (6, [.int 0, .int 0, .int 0, .null, .ref q5294, .ref q5295, .ref q5296, .null])), (q5294, .inl (cs 2, 8, .inl (fun _ => 0))), (q5295, .inl (cs 0, 8, .inl (fun _ => 0))), (q5296, .inl (cs 0, 8, .inl (fun _ => 0))), (q5297, .inl (cs 0, 64, .inl (fun _ => 0)))] [q5297, q5296, q5295, w, q5294] _ _ := hB
  refine b_putF (D := D) (ci := 6) (v := .ref q5297) (ty := .array .int) (C := RX6) (T := TX6) (N := 8) hx hb hts iX6_init_6 tyX6 tyX6_ok nmX6 hown hN hB 0 rfl rfl 7 (by decide) (hts _ mX6_init_9) (fun _ h9 => h9) rfl hin rfl (by decide +kernel) rfl rfl (Nat.le_of_ble_eq_true rfl) (.inr ⟨rfl, List.mem_of_getElem? (i := 3) rfl⟩) dX6_init_33 (fun H locs hB => ?_)
  have hB : Bx B0 D _ [(w, .inr (6, [.int 0, .int 0, .int 0, .null, .ref q5294, .ref q5295, .ref q5296, .ref q5297])), (q5294, .inl (cs 2, 8, .inl (fun _ => 0))), (q5295, .inl (cs 0, 8, .inl (fun _ => 0))), (q5296, .inl (cs 0, 8, .inl (fun _ => 0))), (q5297, .inl (cs 0, 64, .inl (fun _ => 0)))] [q5297, q5296, q5295, w, q5294] _ _ := hB
  refine lv_aload_n hx hb dX6_init_36 rfl (lv_at hl 0 rfl) ?_
  refine lv_iload_n hx hb dX6_init_37 rfl (lv_at hl 1 rfl) ?_
  refine b_putF (D := D) (ci := 6) (v := .int (nI n)) (ty := .int) (C := RX6) (T := TX6) (N := 8) hx hb hts iX6_init_6 tyX6 tyX6_ok nmX6 hown hN hB 0 rfl rfl 0 (by decide) (hts _ mX6_init_10) (fun _ h9 => h9) rfl hin rfl (by decide +kernel) rfl rfl (Nat.le_of_ble_eq_true rfl) (.inr ⟨rfl, List.mem_of_getElem? (i := 3) rfl⟩) dX6_init_38 (fun H locs hB => ?_)
  have hB : Bx B0 D _ [(w, .inr (6, [.int (nI n), .int 0, .int 0, .null, .ref q5294, .ref q5295, .ref q5296, .ref q5297])), (q5294, .inl (cs 2, 8, .inl (fun _ => 0))), (q5295, .inl (cs 0, 8, .inl (fun _ => 0))), (q5296, .inl (cs 0, 8, .inl (fun _ => 0))), (q5297, .inl (cs 0, 64, .inl (fun _ => 0)))] [q5297, q5296, q5295, w, q5294] _ _ := hB
  obtain ⟨κ5298, hκ5298⟩ : ∃ κ9 : KM, κ9 = (ku (ku (ku (ku (ku κ w (7, 11, 0, 0)) q5294 (18, 11, 0, 0)) q5295 (19, 11, 0, 0)) q5296 (19, 11, 0, 0)) q5297 (20, 11, 0, 0)) := ⟨_, rfl⟩
  have hx5298 : KX κ κ5298 := by rw [hκ5298]; exact (((((KX.ku hfw).tr (KX.ku (by rw [ku_n (fun e9 => absurd (hB.2.1.1 1 0 _ _ rfl rfl e9) (by decide))]; exact hfq5294))).tr (KX.ku (by rw [ku_n (fun e9 => absurd (hB.2.1.1 2 1 _ _ rfl rfl e9) (by decide)), ku_n (fun e9 => absurd (hB.2.1.1 2 0 _ _ rfl rfl e9) (by decide))]; exact hfq5295))).tr (KX.ku (by rw [ku_n (fun e9 => absurd (hB.2.1.1 3 2 _ _ rfl rfl e9) (by decide)), ku_n (fun e9 => absurd (hB.2.1.1 3 1 _ _ rfl rfl e9) (by decide)), ku_n (fun e9 => absurd (hB.2.1.1 3 0 _ _ rfl rfl e9) (by decide))]; exact hfq5296))).tr (KX.ku (by rw [ku_n (fun e9 => absurd (hB.2.1.1 4 3 _ _ rfl rfl e9) (by decide)), ku_n (fun e9 => absurd (hB.2.1.1 4 2 _ _ rfl rfl e9) (by decide)), ku_n (fun e9 => absurd (hB.2.1.1 4 1 _ _ rfl rfl e9) (by decide)), ku_n (fun e9 => absurd (hB.2.1.1 4 0 _ _ rfl rfl e9) (by decide))]; exact hfq5297)))
  have ew : κ5298 w = (7, 11, 0, 0) := by rw [hκ5298, ku_n (fun e9 => absurd (hB.2.1.1 0 4 _ _ rfl rfl e9) (by decide)), ku_n (fun e9 => absurd (hB.2.1.1 0 3 _ _ rfl rfl e9) (by decide)), ku_n (fun e9 => absurd (hB.2.1.1 0 2 _ _ rfl rfl e9) (by decide)), ku_n (fun e9 => absurd (hB.2.1.1 0 1 _ _ rfl rfl e9) (by decide)), ku_a]
  have hw : T2 κ5298 w 7 11 := ⟨by rw [ew], by rw [ew]⟩
  have eq5294 : κ5298 q5294 = (18, 11, 0, 0) := by rw [hκ5298, ku_n (fun e9 => absurd (hB.2.1.1 1 4 _ _ rfl rfl e9) (by decide)), ku_n (fun e9 => absurd (hB.2.1.1 1 3 _ _ rfl rfl e9) (by decide)), ku_n (fun e9 => absurd (hB.2.1.1 1 2 _ _ rfl rfl e9) (by decide)), ku_a]
  have hq5294 : T2 κ5298 q5294 18 11 := ⟨by rw [eq5294], by rw [eq5294]⟩
  have eq5295 : κ5298 q5295 = (19, 11, 0, 0) := by rw [hκ5298, ku_n (fun e9 => absurd (hB.2.1.1 2 4 _ _ rfl rfl e9) (by decide)), ku_n (fun e9 => absurd (hB.2.1.1 2 3 _ _ rfl rfl e9) (by decide)), ku_a]
  have hq5295 : T2 κ5298 q5295 19 11 := ⟨by rw [eq5295], by rw [eq5295]⟩
  have eq5296 : κ5298 q5296 = (19, 11, 0, 0) := by rw [hκ5298, ku_n (fun e9 => absurd (hB.2.1.1 3 4 _ _ rfl rfl e9) (by decide)), ku_a]
  have hq5296 : T2 κ5298 q5296 19 11 := ⟨by rw [eq5296], by rw [eq5296]⟩
  have eq5297 : κ5298 q5297 = (20, 11, 0, 0) := by rw [hκ5298, ku_a]
  have hq5297 : T2 κ5298 q5297 20 11 := ⟨by rw [eq5297], by rw [eq5297]⟩
  have hx9 := hx5298
  have hT : WT B0 D cs T κ5298 _ := hT.closeN hB hx5298 (fun a9 h9 => by rw [hκ5298, ku_n (fun e9 => h9 (by rw [e9]; exact List.mem_of_getElem? (i := 0) rfl)), ku_n (fun e9 => h9 (by rw [e9]; exact List.mem_of_getElem? (i := 1) rfl)), ku_n (fun e9 => h9 (by rw [e9]; exact List.mem_of_getElem? (i := 2) rfl)), ku_n (fun e9 => h9 (by rw [e9]; exact List.mem_of_getElem? (i := 4) rfl)), ku_n (fun e9 => h9 (by rw [e9]; exact List.mem_of_getElem? (i := 3) rfl))]) ⟨⟨4, _, rfl, ok_20 hq5297.1 ⟨_, rfl, (fun _ _ => ⟨0, Nat.zero_le _, rfl⟩)⟩⟩, ⟨⟨3, _, rfl, ok_19 hq5296.1 ⟨_, rfl⟩⟩, ⟨⟨2, _, rfl, ok_19 hq5295.1 ⟨_, rfl⟩⟩, ⟨⟨0, _, rfl, ok_7 hw.1 ⟨_, _, _, _, _, _, _, _, rfl, (by omega), (Or.inl rfl), (Or.inl (by rw [ew]; decide)), ⟨hq5294.1, by rw [ew]; exact hq5294.2⟩, ⟨hq5295.1, by rw [ew]; exact hq5295.2⟩, ⟨hq5296.1, by rw [ew]; exact hq5296.2⟩, ⟨hq5297.1, by rw [ew]; exact hq5297.2⟩⟩⟩, ⟨⟨1, _, rfl, ok_18 hq5294.1 ⟨_, rfl, (fun _ _ => Or.inl rfl)⟩⟩, trivial⟩⟩⟩⟩⟩
  have hF : Fr B0 [] κ H0 _ := hF.closeN hB (fa_c (fun h9 => absurd hfq5297 h9) (fa_c (fun h9 => absurd hfq5296 h9) (fa_c (fun h9 => absurd hfq5295 h9) (fa_c (fun h9 => absurd hfw h9) (fa_c (fun h9 => absurd hfq5294 h9) fa_n)))))
  have hL : OkL B0 _ := hB.2.2.2.2.2
  have hKF : KF κ κ5298 := hx5298.f
  have hKX : KX κ κ5298 := hx5298
  have hP : va_P D vwCl [(w, .inr (6, [.int (nI n), .int 0, .int 0, .null, .ref q5294, .ref q5295, .ref q5296, .ref q5297])), (q5294, .inl (cs 2, 8, .inl (fun _ => 0))), (q5295, .inl (cs 0, 8, .inl (fun _ => 0))), (q5296, .inl (cs 0, 8, .inl (fun _ => 0))), (q5297, .inl (cs 0, 64, .inl (fun _ => 0)))] _ := hB.1
  exact en_v hx hb hr hlocks hL (show 4 ≤ 4 by omega) (show ((((0 + 8) + 8) + 8) + 64) ≤ 88 by omega) dX6_init_41 (⟨_, hKX, hT, hF, hw, ew⟩)
theorem mX5_readStatement_7 : (.fieldLink RX5 124 "OneBeat$Reader" "start" "I" : Cond) ∈ wsX5_readStatement := List.mem_of_getElem? (i := 7) (by decide +kernel)
theorem iX5_readStatement_5 : ∀ w ∈ wsX50, w ∈ wsX5_readStatement := fun w h => List.mem_of_mem_drop (List.mem_of_mem_take ((show wsX50 = (wsX5_readStatement.drop 183).take 14 by decide +kernel) ▸ h))
theorem mX5_readStatement_1 : (.fieldLink RX5 65 "OneBeat$Reader" "setup" "LOneBeat$Setup;" : Cond) ∈ wsX5_readStatement := List.mem_of_getElem? (i := 1) (by decide +kernel)
theorem iX5_readStatement_6 : ∀ w ∈ wsX60, w ∈ wsX5_readStatement := fun w h => List.mem_of_mem_drop (List.mem_of_mem_take ((show wsX60 = (wsX5_readStatement.drop 197).take 8 by decide +kernel) ▸ h))
theorem iX5_readStatement_0 : ∀ w ∈ wsX00, w ∈ wsX5_readStatement := fun w h => List.mem_of_mem_drop (List.mem_of_mem_take ((show wsX00 = (wsX5_readStatement.drop 205).take 2 by decide +kernel) ▸ h))
theorem mX5_readStatement_2 : (.classLink RX5 119 RX0 : Cond) ∈ wsX5_readStatement := List.mem_of_getElem? (i := 2) (by decide +kernel)
theorem mX5_readStatement_3 : (.instantiable RX0 2 : Cond) ∈ wsX5_readStatement := List.mem_of_getElem? (i := 3) (by decide +kernel)
theorem mX5_readStatement_4 : (.initialized RX0 : Cond) ∈ wsX5_readStatement := List.mem_of_getElem? (i := 4) (by decide +kernel)
theorem dfl0 : ∀ j, j < 2 → defaultValue (tyX0 j) = vp_V [.null, .null] j := by decide +kernel
theorem mX5_readStatement_5 : (.fieldLink RX5 15 "OneBeat$Reader" "codes" "[I" : Cond) ∈ wsX5_readStatement := List.mem_of_getElem? (i := 5) (by decide +kernel)
theorem mX5_readStatement_6 : (.fieldLink RX5 38 "OneBeat$Reader" "codeCount" "I" : Cond) ∈ wsX5_readStatement := List.mem_of_getElem? (i := 6) (by decide +kernel)
theorem mX5_readStatement_157 : (.instanceMethod yX0_init : Cond) ∈ wsX5_readStatement := List.mem_of_getElem? (i := 157) (by decide +kernel)
theorem mX5_readStatement_156 : (.methodLink RX5 121 yX0_init : Cond) ∈ wsX5_readStatement := List.mem_of_getElem? (i := 156) (by decide +kernel)
theorem hdX0_init_o : yX0_init.cls ≠ "java/lang/invoke/MethodHandle" ∧ yX0_init.cls ≠ "java/lang/invoke/VarHandle" ∧ (parseMethodDescriptor yX0_init.desc).map (fun d => d.parameters.length) = some 2 := by decide +kernel
theorem hdX5_readPatience_v : yX5_readPatience.cls = RX5 ∧ yX5_readPatience.cls ≠ "java/lang/invoke/MethodHandle" ∧ yX5_readPatience.cls ≠ "java/lang/invoke/VarHandle" ∧ (parseMethodDescriptor yX5_readPatience.desc).map (fun d => d.parameters.length) = some 0 := by decide +kernel
theorem hdX5_readNeed_v : yX5_readNeed.cls = RX5 ∧ yX5_readNeed.cls ≠ "java/lang/invoke/MethodHandle" ∧ yX5_readNeed.cls ≠ "java/lang/invoke/VarHandle" ∧ (parseMethodDescriptor yX5_readNeed.desc).map (fun d => d.parameters.length) = some 0 := by decide +kernel
theorem hdX5_readLink_v : yX5_readLink.cls = RX5 ∧ yX5_readLink.cls ≠ "java/lang/invoke/MethodHandle" ∧ yX5_readLink.cls ≠ "java/lang/invoke/VarHandle" ∧ (parseMethodDescriptor yX5_readLink.desc).map (fun d => d.parameters.length) = some 0 := by decide +kernel
theorem hdX5_readClock_v : yX5_readClock.cls = RX5 ∧ yX5_readClock.cls ≠ "java/lang/invoke/MethodHandle" ∧ yX5_readClock.cls ≠ "java/lang/invoke/VarHandle" ∧ (parseMethodDescriptor yX5_readClock.desc).map (fun d => d.parameters.length) = some 0 := by decide +kernel
set_option maxHeartbeats 4000000 in
set_option maxRecDepth 100000 in
theorem c_X5_readStatement {l : Launch} {D : va_G} {cs : Nat → ClassId} {B0 T : Nat} {κ : KM} {H0 : Heap} (hT : WT B0 D cs T κ H0) {w : Nat} (hw : T2 κ w 6 10) (hs0 : ¬ (κ w).2.2.2 = 0) (hsu : T2 κ (κ w).2.2.2 7 11) : KC l yX5_readStatement wsX5_readStatement 21 467 3 618 D cs B0 H0 [.ref w] (Qi (fun r H => ∃ κ1, (∀ a, (κ a).1 ≠ 0 → a ≠ (κ w).2.2.2 → κ1 a = κ a) ∧ WT B0 D cs T κ1 H ∧ Fr B0 [10, 11] κ H0 H ∧ T2 κ1 (κ w).2.2.2 7 11 ∧ (((κ1 (κ w).2.2.2).2.2.1 = (κ (κ w).2.2.2).2.2.1 ∧ Gr H0 H 0 0) ∨ ((κ (κ w).2.2.2).2.2.1 ≠ 1 ∧ (κ1 (κ w).2.2.2).2.2.1 = 1 ∧ Gr H0 H 3 618)) ∧ (r = 0 ∨ r = 1))) := by
  refine KC.of cX5_readStatement 1 (some .boolean) (by decide) rfl (Nat.le_of_ble_eq_true rfl) ?_
  intro p e s m below meth c ls hx hb hr hml hown hts hlocks hin hN hE hH0 hl
  have hown : s.vm.findClass RX5 = some m.cls := hown
  have hl : lv_has ls 1 [(0, .ref w)] := hl
  have hL : OkL B0 [] := OkL.nil
  have hF : Fr B0 [10, 11] κ H0 H0 := Fr.rf
  refine lv_aload_n hx hb dX5_readStatement_0 rfl (lv_at hl 0 rfl) ?_
  refine va_ldcS hx hb hown (hN.s 2 rfl) dX5_readStatement_1 ?_
  refine cv_i (As := [.ref (cs 102)]) (rest := []) (b := w) ⟨hx, hb, hml, hown, hts⟩ (c_X5_isWord hT (w := w) hw (i := 2) (by decide)) (cwV 1 hts gX5_readStatement_X5_isWord rfl rfl rfl hdX5_isWord_v ⟨Nat.le_of_ble_eq_true rfl, Nat.le_of_ble_eq_true rfl⟩) hN hE hL (rcv6 hN hT hw.1) rfl rfl hl.1 (Nat.le_of_ble_eq_true rfl) dX5_readStatement_3 (Nat.zero_le _) (Nat.zero_le _) (fun r5299 H1 locs hL hqr5299 => ?_)
  obtain ⟨h9, hqr5299⟩ := hqr5299; replace h9 := h9.symm; subst h9
  rcases hqr5299 with rfl | rfl
  · refine lv_if_eq (tgt := 14) hx hb dX5_readStatement_6 (by decide) (fun _ => ?_) (fun c9 => absurd (by decide) c9)
    refine lv_aload_n hx hb dX5_readStatement_14 rfl (lv_at hl 0 rfl) ?_
    refine va_ldcS hx hb hown (hN.s 3 rfl) dX5_readStatement_15 ?_
    refine cv_i (As := [.ref (cs 103)]) (rest := []) (b := w) ⟨hx, hb, hml, hown, hts⟩ (c_X5_isWord hT (w := w) hw (i := 3) (by decide)) (cwV 1 hts gX5_readStatement_X5_isWord rfl rfl rfl hdX5_isWord_v ⟨Nat.le_of_ble_eq_true rfl, Nat.le_of_ble_eq_true rfl⟩) hN hE hL (rcv6 hN hT hw.1) rfl rfl hl.1 (Nat.le_of_ble_eq_true rfl) dX5_readStatement_17 (Nat.zero_le _) (Nat.zero_le _) (fun r5300 H1 locs hL hqr5300 => ?_)
    obtain ⟨h9, hqr5300⟩ := hqr5300; replace h9 := h9.symm; subst h9
    rcases hqr5300 with rfl | rfl
    · refine lv_if_eq (tgt := 28) hx hb dX5_readStatement_20 (by decide) (fun _ => ?_) (fun c9 => absurd (by decide) c9)
      refine lv_aload_n hx hb dX5_readStatement_28 rfl (lv_at hl 0 rfl) ?_
      refine va_ldcS hx hb hown (hN.s 4 rfl) dX5_readStatement_29 ?_
      refine cv_i (As := [.ref (cs 104)]) (rest := []) (b := w) ⟨hx, hb, hml, hown, hts⟩ (c_X5_isWord hT (w := w) hw (i := 4) (by decide)) (cwV 1 hts gX5_readStatement_X5_isWord rfl rfl rfl hdX5_isWord_v ⟨Nat.le_of_ble_eq_true rfl, Nat.le_of_ble_eq_true rfl⟩) hN hE hL (rcv6 hN hT hw.1) rfl rfl hl.1 (Nat.le_of_ble_eq_true rfl) dX5_readStatement_31 (Nat.zero_le _) (Nat.zero_le _) (fun r5301 H1 locs hL hqr5301 => ?_)
      obtain ⟨h9, hqr5301⟩ := hqr5301; replace h9 := h9.symm; subst h9
      rcases hqr5301 with rfl | rfl
      · refine lv_if_eq (tgt := 52) hx hb dX5_readStatement_34 (by decide) (fun _ => ?_) (fun c9 => absurd (by decide) c9)
        refine lv_aload_n hx hb dX5_readStatement_52 rfl (lv_at hl 0 rfl) ?_
        refine va_ldcS hx hb hown (hN.s 5 rfl) dX5_readStatement_53 ?_
        refine cv_i (As := [.ref (cs 105)]) (rest := []) (b := w) ⟨hx, hb, hml, hown, hts⟩ (c_X5_isWord hT (w := w) hw (i := 5) (by decide)) (cwV 1 hts gX5_readStatement_X5_isWord rfl rfl rfl hdX5_isWord_v ⟨Nat.le_of_ble_eq_true rfl, Nat.le_of_ble_eq_true rfl⟩) hN hE hL (rcv6 hN hT hw.1) rfl rfl hl.1 (Nat.le_of_ble_eq_true rfl) dX5_readStatement_55 (Nat.zero_le _) (Nat.zero_le _) (fun r5302 H1 locs hL hqr5302 => ?_)
        obtain ⟨h9, hqr5302⟩ := hqr5302; replace h9 := h9.symm; subst h9
        rcases hqr5302 with rfl | rfl
        · refine lv_if_eq (tgt := 76) hx hb dX5_readStatement_58 (by decide) (fun _ => ?_) (fun c9 => absurd (by decide) c9)
          refine lv_aload_n hx hb dX5_readStatement_76 rfl (lv_at hl 0 rfl) ?_
          refine va_ldcS hx hb hown (hN.s 6 rfl) dX5_readStatement_77 ?_
          refine cv_i (As := [.ref (cs 106)]) (rest := []) (b := w) ⟨hx, hb, hml, hown, hts⟩ (c_X5_isWord hT (w := w) hw (i := 6) (by decide)) (cwV 1 hts gX5_readStatement_X5_isWord rfl rfl rfl hdX5_isWord_v ⟨Nat.le_of_ble_eq_true rfl, Nat.le_of_ble_eq_true rfl⟩) hN hE hL (rcv6 hN hT hw.1) rfl rfl hl.1 (Nat.le_of_ble_eq_true rfl) dX5_readStatement_79 (Nat.zero_le _) (Nat.zero_le _) (fun r5303 H1 locs hL hqr5303 => ?_)
          obtain ⟨h9, hqr5303⟩ := hqr5303; replace h9 := h9.symm; subst h9
          rcases hqr5303 with rfl | rfl
          · refine lv_if_eq (tgt := 133) hx hb dX5_readStatement_82 (by decide) (fun _ => ?_) (fun c9 => absurd (by decide) c9)
            refine lv_aload_n hx hb dX5_readStatement_133 rfl (lv_at hl 0 rfl) ?_
            refine lv_bipush (v := (-2)) hx hb dX5_readStatement_134 (by decide) ?_
            refine lv_aload_n hx hb dX5_readStatement_136 rfl (lv_at hl 0 rfl) ?_
            obtain ⟨hb5304, e5304, hat5304, hk5304⟩ := hT.o6 hw.1
            obtain ⟨f5304_0, f5304_2, f5304_3, f5304_4, f5304_5, f5304_6, f5304_7, f5304_8, f5304_9, f5304_10, f5304_11, f5304_12, f5304_13, rfl, c5304_1, c5304_2, c5304_3, c5304_5, c5304_10, t5304_0, t5304_9, c5304_11, c5304_p2⟩ := hk5304
            obtain rfl : f5304_11 = .ref (κ w).2.2.2 := c5304_p2.resolve_left hs0
            have hP : va_P D vwCl [(w, .inr (5, [.ref f5304_0, .int (nI ((κ w).2.2.1)), .int (nI f5304_2), .int (nI f5304_3), .int f5304_4, .int (nI f5304_5), .int f5304_6, .int f5304_7, .int f5304_8, .ref f5304_9, .int (nI f5304_10), .ref (κ w).2.2.2, .int f5304_12, .int f5304_13]))] _ := va_P.cons hat5304 va_P.nil
            refine va_get (D := D) (ci := 5) (v := .int (nI f5304_5)) (C := RX5) (T := TX5) (N := 14) hx hb hts iX5_readStatement_5 hown hN.1 hP 0 rfl rfl 5 (by decide) (hts _ mX5_readStatement_7) (fun _ h9 => h9) rfl dX5_readStatement_137 ?_
            refine cv_i (As := [.int (-2), .int (nI f5304_5)]) (rest := []) (b := w) ⟨hx, hb, hml, hown, hts⟩ (c_X5_fail hT (w := w) hw (x := (-2)) (y := (nI f5304_5))) (cwV 2 hts gX5_readStatement_X5_fail rfl rfl rfl hdX5_fail_v ⟨Nat.le_of_ble_eq_true rfl, Nat.le_of_ble_eq_true rfl⟩) hN hE hL (rcv6 hN hT hw.1) rfl rfl hl.1 (Nat.le_of_ble_eq_true rfl) dX5_readStatement_140 (Nat.zero_le _) (Nat.zero_le _) (fun r5305 H1 locs hL hqr5305 => ?_)
            obtain ⟨hT1, hF1, hqr5305⟩ := hqr5305
            have hF := hF.tr (hF1.mono (by simp))
            have hT := hT1
            obtain rfl := hqr5305
            refine W.know (fun hg => ?_)
            rw [hH0] at hg
            exact en_i hx hb hr hlocks hL rfl (Nat.zero_le _) (Nat.zero_le _) dX5_readStatement_143 (⟨_, (fun _ _ _ => rfl), hT, hF, hsu, Or.inl ⟨rfl, hg⟩, Or.inl rfl⟩)
          · refine lv_if_eq (tgt := 133) hx hb dX5_readStatement_82 (by decide) (fun c9 => absurd c9 (by decide)) (fun _ => ?_)
            refine lv_aload_n hx hb dX5_readStatement_85 rfl (lv_at hl 0 rfl) ?_
            obtain ⟨hb5306, e5306, hat5306, hk5306⟩ := hT.o6 hw.1
            obtain ⟨f5306_0, f5306_2, f5306_3, f5306_4, f5306_5, f5306_6, f5306_7, f5306_8, f5306_9, f5306_10, f5306_11, f5306_12, f5306_13, rfl, c5306_1, c5306_2, c5306_3, c5306_5, c5306_10, t5306_0, t5306_9, c5306_11, c5306_p2⟩ := hk5306
            obtain rfl : f5306_11 = .ref (κ w).2.2.2 := c5306_p2.resolve_left hs0
            have hP : va_P D vwCl [(w, .inr (5, [.ref f5306_0, .int (nI ((κ w).2.2.1)), .int (nI f5306_2), .int (nI f5306_3), .int f5306_4, .int (nI f5306_5), .int f5306_6, .int f5306_7, .int f5306_8, .ref f5306_9, .int (nI f5306_10), .ref (κ w).2.2.2, .int f5306_12, .int f5306_13]))] _ := va_P.cons hat5306 va_P.nil
            refine va_get (D := D) (ci := 5) (v := .ref (κ w).2.2.2) (C := RX5) (T := TX5) (N := 14) hx hb hts iX5_readStatement_5 hown hN.1 hP 0 rfl rfl 11 (by decide) (hts _ mX5_readStatement_1) (fun _ h9 => h9) rfl dX5_readStatement_86 ?_
            obtain ⟨hb5307, e5307, hat5307, hk5307⟩ := hT.o7 hsu.1
            obtain ⟨f5307_0, f5307_1, f5307_2, f5307_3, f5307_4, f5307_5, f5307_6, f5307_7, rfl, c5307_0, c5307_3, c5307_mg, t5307_4, t5307_5, t5307_6, t5307_7⟩ := hk5307
            rw [hsu.2] at t5307_4
            rw [hsu.2] at t5307_5
            rw [hsu.2] at t5307_6
            rw [hsu.2] at t5307_7
            have hP : va_P D vwCl [((κ w).2.2.2, .inr (6, [.int (nI f5307_0), .int f5307_1, .int f5307_2, f5307_3, .ref f5307_4, .ref f5307_5, .ref f5307_6, .ref f5307_7])), (w, .inr (5, [.ref f5306_0, .int (nI ((κ w).2.2.1)), .int (nI f5306_2), .int (nI f5306_3), .int f5306_4, .int (nI f5306_5), .int f5306_6, .int f5306_7, .int f5306_8, .ref f5306_9, .int (nI f5306_10), .ref (κ w).2.2.2, .int f5306_12, .int f5306_13]))] _ := va_P.cons hat5307 hP
            rcases c5307_3 with rfl | ⟨a5308, rfl, ta5308⟩
            · refine va_getN (D := D) (ci := 6) (v := .null) (C := RX6) (T := TX6) (N := 8) hx hb hts iX5_readStatement_6 hown hN.1 hP 0 rfl rfl 3 (by decide) (hN.f 44 rfl) (fun _ h9 => h9) rfl dX5_readStatement_89 ?_
              refine lv_ifnonnullN hx hb dX5_readStatement_92 ?_
              have hmg1 : (κ (κ w).2.2.2).2.2.1 ≠ 1 := (c5307_mg).resolve_right (by rintro ⟨_, h9⟩; cases h9)
              refine lv_aload_n hx hb dX5_readStatement_95 rfl (lv_at hl 0 rfl) ?_
              refine cv_v (As := []) (rest := []) (b := w) ⟨hx, hb, hml, hown, hts⟩ (c_X5_step hT (w := w) hw) (cwV 0 hts gX5_readStatement_X5_step rfl rfl rfl hdX5_step_v ⟨Nat.le_of_ble_eq_true rfl, Nat.le_of_ble_eq_true rfl⟩) hN hE hL (rcv6 hN hT hw.1) rfl rfl hl.1 (Nat.le_of_ble_eq_true rfl) dX5_readStatement_96 (Nat.zero_le _) (Nat.zero_le _) (fun H1 locs hL hqr5309 => ?_)
              obtain ⟨hT1, hF1, hqr5309⟩ := hqr5309
              have hP : va_P D vwCl [((κ w).2.2.2, .inr (6, [.int (nI f5307_0), .int f5307_1, .int f5307_2, .null, .ref f5307_4, .ref f5307_5, .ref f5307_6, .ref f5307_7]))] _ := hF1.hP (hP.sub [0] rfl) (fa_c ⟨by rw [hsu.1]; decide, by rw [hsu.2]; first | decide | (simp; done) | (simp; omega)⟩ fa_n)
              have hF := hF.tr (hF1.mono (by simp))
              have hT := hT1
              have f5310 := hqr5309
              refine lv_aload_n hx hb dX5_readStatement_99 rfl (lv_at hl 0 rfl) ?_
              refine lv_iconst (v := 0) hx hb dX5_readStatement_100 (by decide) ?_
              refine cv_i (As := [.int 0]) (rest := []) (b := w) ⟨hx, hb, hml, hown, hts⟩ (c_X5_readSum_d0 hT (w := w) hw) (cwV 1 hts gX5_readStatement_X5_readSum rfl rfl rfl hdX5_readSum_v ⟨Nat.le_of_ble_eq_true rfl, Nat.le_of_ble_eq_true rfl⟩) hN hE hL (rcv6 hN hT hw.1) rfl rfl hl.1 (Nat.le_of_ble_eq_true rfl) dX5_readStatement_101 (Nat.zero_le _) (Nat.zero_le _) (fun r5311 H1 locs hL hqr5311 => ?_)
              obtain ⟨hT1, hF1, hqr5311⟩ := hqr5311
              have hP : va_P D vwCl [((κ w).2.2.2, .inr (6, [.int (nI f5307_0), .int f5307_1, .int f5307_2, .null, .ref f5307_4, .ref f5307_5, .ref f5307_6, .ref f5307_7]))] _ := hF1.hP (hP.sub [0] rfl) (fa_c ⟨by rw [hsu.1]; decide, by rw [hsu.2]; first | decide | (simp; done) | (simp; omega)⟩ fa_n)
              have hF := hF.tr (hF1.mono (by simp))
              have hT := hT1
              rcases hqr5311 with rfl | rfl
              · refine lv_if_ne (tgt := 109) hx hb dX5_readStatement_104 (by decide) (fun c9 => absurd (by decide) c9) (fun _ => ?_)
                refine lv_iconst (v := 0) hx hb dX5_readStatement_107 (by decide) ?_
                refine W.know (fun hg => ?_)
                rw [hH0] at hg
                exact en_i hx hb hr hlocks hL rfl (Nat.zero_le _) (Nat.zero_le _) dX5_readStatement_108 (⟨_, (fun _ _ _ => rfl), hT, hF, hsu, Or.inl ⟨rfl, hg⟩, Or.inl rfl⟩)
              · refine lv_if_ne (tgt := 109) hx hb dX5_readStatement_104 (by decide) (fun _ => ?_) (fun c9 => absurd c9 (by decide))
                refine lv_aload_n hx hb dX5_readStatement_109 rfl (lv_at hl 0 rfl) ?_
                obtain ⟨hb5312, e5312, hat5312, hk5312⟩ := hT.o6 hw.1
                obtain ⟨f5312_0, f5312_2, f5312_3, f5312_4, f5312_5, f5312_6, f5312_7, f5312_8, f5312_9, f5312_10, f5312_11, f5312_12, f5312_13, rfl, c5312_1, c5312_2, c5312_3, c5312_5, c5312_10, t5312_0, t5312_9, c5312_11, c5312_p2⟩ := hk5312
                obtain rfl : f5312_11 = .ref (κ w).2.2.2 := c5312_p2.resolve_left hs0
                have hP : va_P D vwCl [(w, .inr (5, [.ref f5312_0, .int (nI ((κ w).2.2.1)), .int (nI f5312_2), .int (nI f5312_3), .int f5312_4, .int (nI f5312_5), .int f5312_6, .int f5312_7, .int f5312_8, .ref f5312_9, .int (nI f5312_10), .ref (κ w).2.2.2, .int f5312_12, .int f5312_13])), ((κ w).2.2.2, .inr (6, [.int (nI f5307_0), .int f5307_1, .int f5307_2, .null, .ref f5307_4, .ref f5307_5, .ref f5307_6, .ref f5307_7]))] _ := va_P.cons hat5312 hP
                refine va_get (D := D) (ci := 5) (v := .ref (κ w).2.2.2) (C := RX5) (T := TX5) (N := 14) hx hb hts iX5_readStatement_5 hown hN.1 hP 0 rfl rfl 11 (by decide) (hts _ mX5_readStatement_1) (fun _ h9 => h9) rfl dX5_readStatement_110 ?_
                have hb0 : B0 ≤ _ := hT.b0 hw (by decide)
                have hB : Bx B0 D _ [(w, .inr (5, [.ref f5312_0, .int (nI ((κ w).2.2.1)), .int (nI f5312_2), .int (nI f5312_3), .int f5312_4, .int (nI f5312_5), .int f5312_6, .int f5312_7, .int f5312_8, .ref f5312_9, .int (nI f5312_10), .ref (κ w).2.2.2, .int f5312_12, .int f5312_13])), ((κ w).2.2.2, .inr (6, [.int (nI f5307_0), .int f5307_1, .int f5307_2, .null, .ref f5307_4, .ref f5307_5, .ref f5307_6, .ref f5307_7]))] [] _ _ := Bx.of (fun a => (κ a).1) hL hP (fa_c hb5312 (fa_c hb5307 fa_n)) (by simp only [List.map_cons, List.map_nil, hw.1, hsu.1]; decide)
                refine nw_o (ci := 0) (fs := [.null, .null]) (C := RX0) (T := TX0) (N := 2) hx hb hts iX5_readStatement_0 tyX0 tyX0_ok hown (hts _ mX5_readStatement_2) (hts _ mX5_readStatement_3) (hts _ mX5_readStatement_4) hN rfl dfl0 (show 0 + 1 ≤ 3 by omega) (show 0 + 2 ≤ 618 by omega) dX5_readStatement_113 (fun q5313 H heq5313 hzq5313 hoq5313 hatq5313 => ?_)
                have hgeq5313 : _ ≤ q5313 := Nat.le_trans hB.2.2.1 (Nat.le_of_eq heq5313.symm)
                have hbq5313 : B0 ≤ q5313 := Nat.le_trans hb0 hgeq5313
                have hfq5313 : (κ q5313).1 = 0 := hT.fresh hgeq5313
                have hB := hB.nw heq5313 hzq5313 hoq5313 hatq5313 hb0
                have hB : Bx B0 D _ [(w, .inr (5, [.ref f5312_0, .int (nI ((κ w).2.2.1)), .int (nI f5312_2), .int (nI f5312_3), .int f5312_4, .int (nI f5312_5), .int f5312_6, .int f5312_7, .int f5312_8, .ref f5312_9, .int (nI f5312_10), .ref (κ w).2.2.2, .int f5312_12, .int f5312_13])), ((κ w).2.2.2, .inr (6, [.int (nI f5307_0), .int f5307_1, .int f5307_2, .null, .ref f5307_4, .ref f5307_5, .ref f5307_6, .ref f5307_7])), (q5313, .inr (0, [.null, .null]))] [] _ _ := hB
                refine lv_dup hx hb dX5_readStatement_116 rfl ?_
                refine lv_aload_n hx hb dX5_readStatement_117 rfl (lv_at hl 0 rfl) ?_
                refine va_get (D := D) (ci := 5) (v := .ref f5312_9) (C := RX5) (T := TX5) (N := 14) hx hb hts iX5_readStatement_5 hown hN.1 hB.1 0 rfl rfl 9 (by decide) (hts _ mX5_readStatement_5) (fun _ h9 => h9) rfl dX5_readStatement_118 ?_
                refine lv_aload_n hx hb dX5_readStatement_121 rfl (lv_at hl 0 rfl) ?_
                refine va_get (D := D) (ci := 5) (v := .int (nI f5312_10)) (C := RX5) (T := TX5) (N := 14) hx hb hts iX5_readStatement_5 hown hN.1 hB.1 0 rfl rfl 10 (by decide) (hts _ mX5_readStatement_6) (fun _ h9 => h9) rfl dX5_readStatement_122 ?_
                have hT : WT B0 D cs T κ _ := hT.close hB trivial
                have hF : Fr B0 [10, 11] κ H0 _ := hF.close hB fa_n
                have hL : OkL B0 _ := hB.2.2.2.2.2
                have hP : va_P D vwCl [(w, .inr (5, [.ref f5312_0, .int (nI ((κ w).2.2.1)), .int (nI f5312_2), .int (nI f5312_3), .int f5312_4, .int (nI f5312_5), .int f5312_6, .int f5312_7, .int f5312_8, .ref f5312_9, .int (nI f5312_10), .ref (κ w).2.2.2, .int f5312_12, .int f5312_13])), ((κ w).2.2.2, .inr (6, [.int (nI f5307_0), .int f5307_1, .int f5307_2, .null, .ref f5307_4, .ref f5307_5, .ref f5307_6, .ref f5307_7])), (q5313, .inr (0, [.null, .null]))] _ := hB.1
                refine ci_v (As := [.ref f5312_9, .int (nI f5312_10)]) (rest := [.ref q5313, .ref (κ w).2.2.2]) (b := q5313) ⟨hx, hb, hml, hown, hts⟩ (c_X0_init hT (w := q5313) hfq5313 hbq5313 (hP 2 _ rfl) (v := f5312_9) t5312_9 (n := f5312_10) (by first | omega | decide | assumption)) (cwI 2 hts gX5_readStatement_X0_init rfl rfl rfl (hts _ mX5_readStatement_4) (hts _ mX5_readStatement_156) (hts _ mX5_readStatement_157) rfl hdX0_init_o ⟨Nat.le_of_ble_eq_true rfl, Nat.le_of_ble_eq_true rfl⟩) hN hE hL rfl rfl hl.1 (Nat.le_of_ble_eq_true rfl) dX5_readStatement_125 (show 1 + 2 ≤ 3 by omega) (show (0 + 2) + 616 ≤ 618 by omega) (fun H1 locs hL hqr5314 => ?_)
                obtain ⟨κr5314, hxr5314, hT1, hF1, hqr5314⟩ := hqr5314
                have hF := hF.tr (hF1.mono (by simp))
                have hT := hT1
                have hKF : KF κ κr5314 := hxr5314.f
                have hKX : KX κ κr5314 := hxr5314
                have hw := (hxr5314.f.t2 hw (by decide))
                have hsu := (hxr5314.f.t2 hsu (by decide))
                have hq5313 := hqr5314
                obtain ⟨hb5315, e5315, hat5315, hk5315⟩ := hT.o7 hsu.1
                obtain ⟨f5315_0, f5315_1, f5315_2, f5315_3, f5315_4, f5315_5, f5315_6, f5315_7, rfl, c5315_0, c5315_3, c5315_mg, t5315_4, t5315_5, t5315_6, t5315_7⟩ := hk5315
                rw [hsu.2] at t5315_4
                rw [hsu.2] at t5315_5
                rw [hsu.2] at t5315_6
                rw [hsu.2] at t5315_7
                have hP : va_P D vwCl [((κ w).2.2.2, .inr (6, [.int (nI f5315_0), .int f5315_1, .int f5315_2, f5315_3, .ref f5315_4, .ref f5315_5, .ref f5315_6, .ref f5315_7]))] _ := va_P.cons hat5315 va_P.nil
                have hB : Bx B0 D _ [((κ w).2.2.2, .inr (6, [.int (nI f5315_0), .int f5315_1, .int f5315_2, f5315_3, .ref f5315_4, .ref f5315_5, .ref f5315_6, .ref f5315_7]))] [] _ _ := Bx.of (fun a => (κr5314 a).1) hL hP (fa_c hb5315 fa_n) (by simp only [List.map_cons, List.map_nil, hsu.1]; decide)
                refine b_putN (D := D) (ci := 6) (v := .ref q5313) (ty := .object "OneBeat$Formula") (C := RX6) (T := TX6) (N := 8) hx hb hts iX5_readStatement_6 tyX6 tyX6_ok nmX6 hown hN hB 0 rfl rfl 3 (by decide) (hN.f 44 rfl) (fun _ h9 => h9) rfl (by decide +kernel) rfl rfl (Nat.le_of_ble_eq_true rfl) (.inl rfl) dX5_readStatement_128 (fun H locs hB => ?_)
                have hB : Bx B0 D _ [((κ w).2.2.2, .inr (6, [.int (nI f5315_0), .int f5315_1, .int f5315_2, .ref q5313, .ref f5315_4, .ref f5315_5, .ref f5315_6, .ref f5315_7]))] [(κ w).2.2.2] _ _ := hB
                refine lv_iconst (v := 1) hx hb dX5_readStatement_131 (by decide) ?_
                have hF : Fr B0 [10, 11] κ H0 _ := hF.closeN hB (fa_c (fun h9 => by rw [← (hKF _ h9).2, hsu.2]; simp) fa_n)
                have hT : WT B0 D cs T (kp κr5314 (κ w).2.2.2 1 0) _ := hT.closeK (κ w).2.2.2 1 0 hB (by rw [hsu.1]; decide) (by rw [hsu.1]; decide) (List.mem_of_getElem? (i := 0) rfl) ⟨⟨0, _, rfl, kp_ok (ok_7 (k := ((κr5314 (κ w).2.2.2).1, (κr5314 (κ w).2.2.2).2.1, _, _)) hsu.1 ⟨_, _, _, _, _, _, _, _, rfl, (by omega), (Or.inr ⟨_, rfl, (t2kp hq5313)⟩), (Or.inr ⟨_, rfl⟩), ⟨(t2kp t5315_4).1, by rw [hsu.2]; exact (t2kp t5315_4).2⟩, ⟨(t2kp t5315_5).1, by rw [hsu.2]; exact (t2kp t5315_5).2⟩, ⟨(t2kp t5315_6).1, by rw [hsu.2]; exact (t2kp t5315_6).2⟩, ⟨(t2kp t5315_7).1, by rw [hsu.2]; exact (t2kp t5315_7).2⟩⟩)⟩, trivial⟩
                have hL : OkL B0 _ := hB.2.2.2.2.2
                have hsu := t2kp (x := 1) (y := 0) (a := (κ w).2.2.2) hsu
                refine W.know (fun hg => ?_)
                rw [hH0] at hg
                exact en_i hx hb hr hlocks hL rfl (show 3 ≤ 3 by omega) (show ((0 + 2) + 616) ≤ 618 by omega) dX5_readStatement_132 (⟨_, (fun a h1 h2 => (kp_n h2).trans (hKX a h1)), hT, hF, hsu, Or.inr ⟨hmg1, by rw [kp_a], hg.mono (by omega) (by omega)⟩, Or.inr rfl⟩)
            · refine va_getN (D := D) (ci := 6) (v := .ref a5308) (C := RX6) (T := TX6) (N := 8) hx hb hts iX5_readStatement_6 hown hN.1 hP 0 rfl rfl 3 (by decide) (hN.f 44 rfl) (fun _ h9 => h9) rfl dX5_readStatement_89 ?_
              refine lv_ifnonnull (tgt := 133) hx hb dX5_readStatement_92 (by decide) ?_
              refine lv_aload_n hx hb dX5_readStatement_133 rfl (lv_at hl 0 rfl) ?_
              refine lv_bipush (v := (-2)) hx hb dX5_readStatement_134 (by decide) ?_
              refine lv_aload_n hx hb dX5_readStatement_136 rfl (lv_at hl 0 rfl) ?_
              refine va_get (D := D) (ci := 5) (v := .int (nI f5306_5)) (C := RX5) (T := TX5) (N := 14) hx hb hts iX5_readStatement_5 hown hN.1 hP 1 rfl rfl 5 (by decide) (hts _ mX5_readStatement_7) (fun _ h9 => h9) rfl dX5_readStatement_137 ?_
              refine cv_i (As := [.int (-2), .int (nI f5306_5)]) (rest := []) (b := w) ⟨hx, hb, hml, hown, hts⟩ (c_X5_fail hT (w := w) hw (x := (-2)) (y := (nI f5306_5))) (cwV 2 hts gX5_readStatement_X5_fail rfl rfl rfl hdX5_fail_v ⟨Nat.le_of_ble_eq_true rfl, Nat.le_of_ble_eq_true rfl⟩) hN hE hL (rcv6 hN hT hw.1) rfl rfl hl.1 (Nat.le_of_ble_eq_true rfl) dX5_readStatement_140 (Nat.zero_le _) (Nat.zero_le _) (fun r5316 H1 locs hL hqr5316 => ?_)
              obtain ⟨hT1, hF1, hqr5316⟩ := hqr5316
              have hP : va_P D vwCl [((κ w).2.2.2, .inr (6, [.int (nI f5307_0), .int f5307_1, .int f5307_2, .ref a5308, .ref f5307_4, .ref f5307_5, .ref f5307_6, .ref f5307_7]))] _ := hF1.hP (hP.sub [0] rfl) (fa_c ⟨by rw [hsu.1]; decide, by rw [hsu.2]; first | decide | (simp; done) | (simp; omega)⟩ fa_n)
              have hF := hF.tr (hF1.mono (by simp))
              have hT := hT1
              obtain rfl := hqr5316
              refine W.know (fun hg => ?_)
              rw [hH0] at hg
              exact en_i hx hb hr hlocks hL rfl (Nat.zero_le _) (Nat.zero_le _) dX5_readStatement_143 (⟨_, (fun _ _ _ => rfl), hT, hF, hsu, Or.inl ⟨rfl, hg⟩, Or.inl rfl⟩)
        · refine lv_if_eq (tgt := 76) hx hb dX5_readStatement_58 (by decide) (fun c9 => absurd c9 (by decide)) (fun _ => ?_)
          refine lv_aload_n hx hb dX5_readStatement_61 rfl (lv_at hl 0 rfl) ?_
          obtain ⟨hb5317, e5317, hat5317, hk5317⟩ := hT.o6 hw.1
          obtain ⟨f5317_0, f5317_2, f5317_3, f5317_4, f5317_5, f5317_6, f5317_7, f5317_8, f5317_9, f5317_10, f5317_11, f5317_12, f5317_13, rfl, c5317_1, c5317_2, c5317_3, c5317_5, c5317_10, t5317_0, t5317_9, c5317_11, c5317_p2⟩ := hk5317
          obtain rfl : f5317_11 = .ref (κ w).2.2.2 := c5317_p2.resolve_left hs0
          have hP : va_P D vwCl [(w, .inr (5, [.ref f5317_0, .int (nI ((κ w).2.2.1)), .int (nI f5317_2), .int (nI f5317_3), .int f5317_4, .int (nI f5317_5), .int f5317_6, .int f5317_7, .int f5317_8, .ref f5317_9, .int (nI f5317_10), .ref (κ w).2.2.2, .int f5317_12, .int f5317_13]))] _ := va_P.cons hat5317 va_P.nil
          refine va_get (D := D) (ci := 5) (v := .ref (κ w).2.2.2) (C := RX5) (T := TX5) (N := 14) hx hb hts iX5_readStatement_5 hown hN.1 hP 0 rfl rfl 11 (by decide) (hts _ mX5_readStatement_1) (fun _ h9 => h9) rfl dX5_readStatement_62 ?_
          obtain ⟨hb5318, e5318, hat5318, hk5318⟩ := hT.o7 hsu.1
          obtain ⟨f5318_0, f5318_1, f5318_2, f5318_3, f5318_4, f5318_5, f5318_6, f5318_7, rfl, c5318_0, c5318_3, c5318_mg, t5318_4, t5318_5, t5318_6, t5318_7⟩ := hk5318
          rw [hsu.2] at t5318_4
          rw [hsu.2] at t5318_5
          rw [hsu.2] at t5318_6
          rw [hsu.2] at t5318_7
          have hP : va_P D vwCl [((κ w).2.2.2, .inr (6, [.int (nI f5318_0), .int f5318_1, .int f5318_2, f5318_3, .ref f5318_4, .ref f5318_5, .ref f5318_6, .ref f5318_7])), (w, .inr (5, [.ref f5317_0, .int (nI ((κ w).2.2.1)), .int (nI f5317_2), .int (nI f5317_3), .int f5317_4, .int (nI f5317_5), .int f5317_6, .int f5317_7, .int f5317_8, .ref f5317_9, .int (nI f5317_10), .ref (κ w).2.2.2, .int f5317_12, .int f5317_13]))] _ := va_P.cons hat5318 hP
          refine va_getN (D := D) (ci := 6) (v := .int f5318_2) (C := RX6) (T := TX6) (N := 8) hx hb hts iX5_readStatement_6 hown hN.1 hP 0 rfl rfl 2 (by decide) (hN.f 42 rfl) (fun _ h9 => h9) rfl dX5_readStatement_65 ?_
          refine lv_if_ne (tgt := 76) hx hb dX5_readStatement_68 (by decide) (fun c5319 => ?_) (fun c5319 => ?_)
          · refine lv_aload_n hx hb dX5_readStatement_76 rfl (lv_at hl 0 rfl) ?_
            refine va_ldcS hx hb hown (hN.s 6 rfl) dX5_readStatement_77 ?_
            refine cv_i (As := [.ref (cs 106)]) (rest := []) (b := w) ⟨hx, hb, hml, hown, hts⟩ (c_X5_isWord hT (w := w) hw (i := 6) (by decide)) (cwV 1 hts gX5_readStatement_X5_isWord rfl rfl rfl hdX5_isWord_v ⟨Nat.le_of_ble_eq_true rfl, Nat.le_of_ble_eq_true rfl⟩) hN hE hL (rcv6 hN hT hw.1) rfl rfl hl.1 (Nat.le_of_ble_eq_true rfl) dX5_readStatement_79 (Nat.zero_le _) (Nat.zero_le _) (fun r5320 H1 locs hL hqr5320 => ?_)
            obtain ⟨h9, hqr5320⟩ := hqr5320; replace h9 := h9.symm; subst h9
            rcases hqr5320 with rfl | rfl
            · refine lv_if_eq (tgt := 133) hx hb dX5_readStatement_82 (by decide) (fun _ => ?_) (fun c9 => absurd (by decide) c9)
              refine lv_aload_n hx hb dX5_readStatement_133 rfl (lv_at hl 0 rfl) ?_
              refine lv_bipush (v := (-2)) hx hb dX5_readStatement_134 (by decide) ?_
              refine lv_aload_n hx hb dX5_readStatement_136 rfl (lv_at hl 0 rfl) ?_
              refine va_get (D := D) (ci := 5) (v := .int (nI f5317_5)) (C := RX5) (T := TX5) (N := 14) hx hb hts iX5_readStatement_5 hown hN.1 hP 1 rfl rfl 5 (by decide) (hts _ mX5_readStatement_7) (fun _ h9 => h9) rfl dX5_readStatement_137 ?_
              refine cv_i (As := [.int (-2), .int (nI f5317_5)]) (rest := []) (b := w) ⟨hx, hb, hml, hown, hts⟩ (c_X5_fail hT (w := w) hw (x := (-2)) (y := (nI f5317_5))) (cwV 2 hts gX5_readStatement_X5_fail rfl rfl rfl hdX5_fail_v ⟨Nat.le_of_ble_eq_true rfl, Nat.le_of_ble_eq_true rfl⟩) hN hE hL (rcv6 hN hT hw.1) rfl rfl hl.1 (Nat.le_of_ble_eq_true rfl) dX5_readStatement_140 (Nat.zero_le _) (Nat.zero_le _) (fun r5321 H1 locs hL hqr5321 => ?_)
              obtain ⟨hT1, hF1, hqr5321⟩ := hqr5321
              have hP : va_P D vwCl [((κ w).2.2.2, .inr (6, [.int (nI f5318_0), .int f5318_1, .int f5318_2, f5318_3, .ref f5318_4, .ref f5318_5, .ref f5318_6, .ref f5318_7]))] _ := hF1.hP (hP.sub [0] rfl) (fa_c ⟨by rw [hsu.1]; decide, by rw [hsu.2]; first | decide | (simp; done) | (simp; omega)⟩ fa_n)
              have hF := hF.tr (hF1.mono (by simp))
              have hT := hT1
              obtain rfl := hqr5321
              refine W.know (fun hg => ?_)
              rw [hH0] at hg
              exact en_i hx hb hr hlocks hL rfl (Nat.zero_le _) (Nat.zero_le _) dX5_readStatement_143 (⟨_, (fun _ _ _ => rfl), hT, hF, hsu, Or.inl ⟨rfl, hg⟩, Or.inl rfl⟩)
            · refine lv_if_eq (tgt := 133) hx hb dX5_readStatement_82 (by decide) (fun c9 => absurd c9 (by decide)) (fun _ => ?_)
              refine lv_aload_n hx hb dX5_readStatement_85 rfl (lv_at hl 0 rfl) ?_
              refine va_get (D := D) (ci := 5) (v := .ref (κ w).2.2.2) (C := RX5) (T := TX5) (N := 14) hx hb hts iX5_readStatement_5 hown hN.1 hP 1 rfl rfl 11 (by decide) (hts _ mX5_readStatement_1) (fun _ h9 => h9) rfl dX5_readStatement_86 ?_
              rcases c5318_3 with rfl | ⟨a5322, rfl, ta5322⟩
              · refine va_getN (D := D) (ci := 6) (v := .null) (C := RX6) (T := TX6) (N := 8) hx hb hts iX5_readStatement_6 hown hN.1 hP 0 rfl rfl 3 (by decide) (hN.f 44 rfl) (fun _ h9 => h9) rfl dX5_readStatement_89 ?_
                refine lv_ifnonnullN hx hb dX5_readStatement_92 ?_
                have hmg1 : (κ (κ w).2.2.2).2.2.1 ≠ 1 := (c5318_mg).resolve_right (by rintro ⟨_, h9⟩; cases h9)
                refine lv_aload_n hx hb dX5_readStatement_95 rfl (lv_at hl 0 rfl) ?_
                refine cv_v (As := []) (rest := []) (b := w) ⟨hx, hb, hml, hown, hts⟩ (c_X5_step hT (w := w) hw) (cwV 0 hts gX5_readStatement_X5_step rfl rfl rfl hdX5_step_v ⟨Nat.le_of_ble_eq_true rfl, Nat.le_of_ble_eq_true rfl⟩) hN hE hL (rcv6 hN hT hw.1) rfl rfl hl.1 (Nat.le_of_ble_eq_true rfl) dX5_readStatement_96 (Nat.zero_le _) (Nat.zero_le _) (fun H1 locs hL hqr5323 => ?_)
                obtain ⟨hT1, hF1, hqr5323⟩ := hqr5323
                have hP : va_P D vwCl [((κ w).2.2.2, .inr (6, [.int (nI f5318_0), .int f5318_1, .int f5318_2, .null, .ref f5318_4, .ref f5318_5, .ref f5318_6, .ref f5318_7]))] _ := hF1.hP (hP.sub [0] rfl) (fa_c ⟨by rw [hsu.1]; decide, by rw [hsu.2]; first | decide | (simp; done) | (simp; omega)⟩ fa_n)
                have hF := hF.tr (hF1.mono (by simp))
                have hT := hT1
                have f5324 := hqr5323
                refine lv_aload_n hx hb dX5_readStatement_99 rfl (lv_at hl 0 rfl) ?_
                refine lv_iconst (v := 0) hx hb dX5_readStatement_100 (by decide) ?_
                refine cv_i (As := [.int 0]) (rest := []) (b := w) ⟨hx, hb, hml, hown, hts⟩ (c_X5_readSum_d0 hT (w := w) hw) (cwV 1 hts gX5_readStatement_X5_readSum rfl rfl rfl hdX5_readSum_v ⟨Nat.le_of_ble_eq_true rfl, Nat.le_of_ble_eq_true rfl⟩) hN hE hL (rcv6 hN hT hw.1) rfl rfl hl.1 (Nat.le_of_ble_eq_true rfl) dX5_readStatement_101 (Nat.zero_le _) (Nat.zero_le _) (fun r5325 H1 locs hL hqr5325 => ?_)
                obtain ⟨hT1, hF1, hqr5325⟩ := hqr5325
                have hP : va_P D vwCl [((κ w).2.2.2, .inr (6, [.int (nI f5318_0), .int f5318_1, .int f5318_2, .null, .ref f5318_4, .ref f5318_5, .ref f5318_6, .ref f5318_7]))] _ := hF1.hP (hP.sub [0] rfl) (fa_c ⟨by rw [hsu.1]; decide, by rw [hsu.2]; first | decide | (simp; done) | (simp; omega)⟩ fa_n)
                have hF := hF.tr (hF1.mono (by simp))
                have hT := hT1
                rcases hqr5325 with rfl | rfl
                · refine lv_if_ne (tgt := 109) hx hb dX5_readStatement_104 (by decide) (fun c9 => absurd (by decide) c9) (fun _ => ?_)
                  refine lv_iconst (v := 0) hx hb dX5_readStatement_107 (by decide) ?_
                  refine W.know (fun hg => ?_)
                  rw [hH0] at hg
                  exact en_i hx hb hr hlocks hL rfl (Nat.zero_le _) (Nat.zero_le _) dX5_readStatement_108 (⟨_, (fun _ _ _ => rfl), hT, hF, hsu, Or.inl ⟨rfl, hg⟩, Or.inl rfl⟩)
                · refine lv_if_ne (tgt := 109) hx hb dX5_readStatement_104 (by decide) (fun _ => ?_) (fun c9 => absurd c9 (by decide))
                  refine lv_aload_n hx hb dX5_readStatement_109 rfl (lv_at hl 0 rfl) ?_
                  obtain ⟨hb5326, e5326, hat5326, hk5326⟩ := hT.o6 hw.1
                  obtain ⟨f5326_0, f5326_2, f5326_3, f5326_4, f5326_5, f5326_6, f5326_7, f5326_8, f5326_9, f5326_10, f5326_11, f5326_12, f5326_13, rfl, c5326_1, c5326_2, c5326_3, c5326_5, c5326_10, t5326_0, t5326_9, c5326_11, c5326_p2⟩ := hk5326
                  obtain rfl : f5326_11 = .ref (κ w).2.2.2 := c5326_p2.resolve_left hs0
                  have hP : va_P D vwCl [(w, .inr (5, [.ref f5326_0, .int (nI ((κ w).2.2.1)), .int (nI f5326_2), .int (nI f5326_3), .int f5326_4, .int (nI f5326_5), .int f5326_6, .int f5326_7, .int f5326_8, .ref f5326_9, .int (nI f5326_10), .ref (κ w).2.2.2, .int f5326_12, .int f5326_13])), ((κ w).2.2.2, .inr (6, [.int (nI f5318_0), .int f5318_1, .int f5318_2, .null, .ref f5318_4, .ref f5318_5, .ref f5318_6, .ref f5318_7]))] _ := va_P.cons hat5326 hP
                  refine va_get (D := D) (ci := 5) (v := .ref (κ w).2.2.2) (C := RX5) (T := TX5) (N := 14) hx hb hts iX5_readStatement_5 hown hN.1 hP 0 rfl rfl 11 (by decide) (hts _ mX5_readStatement_1) (fun _ h9 => h9) rfl dX5_readStatement_110 ?_
                  have hb0 : B0 ≤ _ := hT.b0 hw (by decide)
                  have hB : Bx B0 D _ [(w, .inr (5, [.ref f5326_0, .int (nI ((κ w).2.2.1)), .int (nI f5326_2), .int (nI f5326_3), .int f5326_4, .int (nI f5326_5), .int f5326_6, .int f5326_7, .int f5326_8, .ref f5326_9, .int (nI f5326_10), .ref (κ w).2.2.2, .int f5326_12, .int f5326_13])), ((κ w).2.2.2, .inr (6, [.int (nI f5318_0), .int f5318_1, .int f5318_2, .null, .ref f5318_4, .ref f5318_5, .ref f5318_6, .ref f5318_7]))] [] _ _ := Bx.of (fun a => (κ a).1) hL hP (fa_c hb5326 (fa_c hb5318 fa_n)) (by simp only [List.map_cons, List.map_nil, hw.1, hsu.1]; decide)
                  refine nw_o (ci := 0) (fs := [.null, .null]) (C := RX0) (T := TX0) (N := 2) hx hb hts iX5_readStatement_0 tyX0 tyX0_ok hown (hts _ mX5_readStatement_2) (hts _ mX5_readStatement_3) (hts _ mX5_readStatement_4) hN rfl dfl0 (show 0 + 1 ≤ 3 by omega) (show 0 + 2 ≤ 618 by omega) dX5_readStatement_113 (fun q5327 H heq5327 hzq5327 hoq5327 hatq5327 => ?_)
                  have hgeq5327 : _ ≤ q5327 := Nat.le_trans hB.2.2.1 (Nat.le_of_eq heq5327.symm)
                  have hbq5327 : B0 ≤ q5327 := Nat.le_trans hb0 hgeq5327
                  have hfq5327 : (κ q5327).1 = 0 := hT.fresh hgeq5327
                  have hB := hB.nw heq5327 hzq5327 hoq5327 hatq5327 hb0
                  have hB : Bx B0 D _ [(w, .inr (5, [.ref f5326_0, .int (nI ((κ w).2.2.1)), .int (nI f5326_2), .int (nI f5326_3), .int f5326_4, .int (nI f5326_5), .int f5326_6, .int f5326_7, .int f5326_8, .ref f5326_9, .int (nI f5326_10), .ref (κ w).2.2.2, .int f5326_12, .int f5326_13])), ((κ w).2.2.2, .inr (6, [.int (nI f5318_0), .int f5318_1, .int f5318_2, .null, .ref f5318_4, .ref f5318_5, .ref f5318_6, .ref f5318_7])), (q5327, .inr (0, [.null, .null]))] [] _ _ := hB
                  refine lv_dup hx hb dX5_readStatement_116 rfl ?_
                  refine lv_aload_n hx hb dX5_readStatement_117 rfl (lv_at hl 0 rfl) ?_
                  refine va_get (D := D) (ci := 5) (v := .ref f5326_9) (C := RX5) (T := TX5) (N := 14) hx hb hts iX5_readStatement_5 hown hN.1 hB.1 0 rfl rfl 9 (by decide) (hts _ mX5_readStatement_5) (fun _ h9 => h9) rfl dX5_readStatement_118 ?_
                  refine lv_aload_n hx hb dX5_readStatement_121 rfl (lv_at hl 0 rfl) ?_
                  refine va_get (D := D) (ci := 5) (v := .int (nI f5326_10)) (C := RX5) (T := TX5) (N := 14) hx hb hts iX5_readStatement_5 hown hN.1 hB.1 0 rfl rfl 10 (by decide) (hts _ mX5_readStatement_6) (fun _ h9 => h9) rfl dX5_readStatement_122 ?_
                  have hT : WT B0 D cs T κ _ := hT.close hB trivial
                  have hF : Fr B0 [10, 11] κ H0 _ := hF.close hB fa_n
                  have hL : OkL B0 _ := hB.2.2.2.2.2
                  have hP : va_P D vwCl [(w, .inr (5, [.ref f5326_0, .int (nI ((κ w).2.2.1)), .int (nI f5326_2), .int (nI f5326_3), .int f5326_4, .int (nI f5326_5), .int f5326_6, .int f5326_7, .int f5326_8, .ref f5326_9, .int (nI f5326_10), .ref (κ w).2.2.2, .int f5326_12, .int f5326_13])), ((κ w).2.2.2, .inr (6, [.int (nI f5318_0), .int f5318_1, .int f5318_2, .null, .ref f5318_4, .ref f5318_5, .ref f5318_6, .ref f5318_7])), (q5327, .inr (0, [.null, .null]))] _ := hB.1
                  refine ci_v (As := [.ref f5326_9, .int (nI f5326_10)]) (rest := [.ref q5327, .ref (κ w).2.2.2]) (b := q5327) ⟨hx, hb, hml, hown, hts⟩ (c_X0_init hT (w := q5327) hfq5327 hbq5327 (hP 2 _ rfl) (v := f5326_9) t5326_9 (n := f5326_10) (by first | omega | decide | assumption)) (cwI 2 hts gX5_readStatement_X0_init rfl rfl rfl (hts _ mX5_readStatement_4) (hts _ mX5_readStatement_156) (hts _ mX5_readStatement_157) rfl hdX0_init_o ⟨Nat.le_of_ble_eq_true rfl, Nat.le_of_ble_eq_true rfl⟩) hN hE hL rfl rfl hl.1 (Nat.le_of_ble_eq_true rfl) dX5_readStatement_125 (show 1 + 2 ≤ 3 by omega) (show (0 + 2) + 616 ≤ 618 by omega) (fun H1 locs hL hqr5328 => ?_)
                  obtain ⟨κr5328, hxr5328, hT1, hF1, hqr5328⟩ := hqr5328
                  have hF := hF.tr (hF1.mono (by simp))
                  have hT := hT1
                  have hKF : KF κ κr5328 := hxr5328.f
                  have hKX : KX κ κr5328 := hxr5328
                  have hw := (hxr5328.f.t2 hw (by decide))
                  have hsu := (hxr5328.f.t2 hsu (by decide))
                  have hq5327 := hqr5328
                  obtain ⟨hb5329, e5329, hat5329, hk5329⟩ := hT.o7 hsu.1
                  obtain ⟨f5329_0, f5329_1, f5329_2, f5329_3, f5329_4, f5329_5, f5329_6, f5329_7, rfl, c5329_0, c5329_3, c5329_mg, t5329_4, t5329_5, t5329_6, t5329_7⟩ := hk5329
                  rw [hsu.2] at t5329_4
                  rw [hsu.2] at t5329_5
                  rw [hsu.2] at t5329_6
                  rw [hsu.2] at t5329_7
                  have hP : va_P D vwCl [((κ w).2.2.2, .inr (6, [.int (nI f5329_0), .int f5329_1, .int f5329_2, f5329_3, .ref f5329_4, .ref f5329_5, .ref f5329_6, .ref f5329_7]))] _ := va_P.cons hat5329 va_P.nil
                  have hB : Bx B0 D _ [((κ w).2.2.2, .inr (6, [.int (nI f5329_0), .int f5329_1, .int f5329_2, f5329_3, .ref f5329_4, .ref f5329_5, .ref f5329_6, .ref f5329_7]))] [] _ _ := Bx.of (fun a => (κr5328 a).1) hL hP (fa_c hb5329 fa_n) (by simp only [List.map_cons, List.map_nil, hsu.1]; decide)
                  refine b_putN (D := D) (ci := 6) (v := .ref q5327) (ty := .object "OneBeat$Formula") (C := RX6) (T := TX6) (N := 8) hx hb hts iX5_readStatement_6 tyX6 tyX6_ok nmX6 hown hN hB 0 rfl rfl 3 (by decide) (hN.f 44 rfl) (fun _ h9 => h9) rfl (by decide +kernel) rfl rfl (Nat.le_of_ble_eq_true rfl) (.inl rfl) dX5_readStatement_128 (fun H locs hB => ?_)
                  have hB : Bx B0 D _ [((κ w).2.2.2, .inr (6, [.int (nI f5329_0), .int f5329_1, .int f5329_2, .ref q5327, .ref f5329_4, .ref f5329_5, .ref f5329_6, .ref f5329_7]))] [(κ w).2.2.2] _ _ := hB
                  refine lv_iconst (v := 1) hx hb dX5_readStatement_131 (by decide) ?_
                  have hF : Fr B0 [10, 11] κ H0 _ := hF.closeN hB (fa_c (fun h9 => by rw [← (hKF _ h9).2, hsu.2]; simp) fa_n)
                  have hT : WT B0 D cs T (kp κr5328 (κ w).2.2.2 1 0) _ := hT.closeK (κ w).2.2.2 1 0 hB (by rw [hsu.1]; decide) (by rw [hsu.1]; decide) (List.mem_of_getElem? (i := 0) rfl) ⟨⟨0, _, rfl, kp_ok (ok_7 (k := ((κr5328 (κ w).2.2.2).1, (κr5328 (κ w).2.2.2).2.1, _, _)) hsu.1 ⟨_, _, _, _, _, _, _, _, rfl, (by omega), (Or.inr ⟨_, rfl, (t2kp hq5327)⟩), (Or.inr ⟨_, rfl⟩), ⟨(t2kp t5329_4).1, by rw [hsu.2]; exact (t2kp t5329_4).2⟩, ⟨(t2kp t5329_5).1, by rw [hsu.2]; exact (t2kp t5329_5).2⟩, ⟨(t2kp t5329_6).1, by rw [hsu.2]; exact (t2kp t5329_6).2⟩, ⟨(t2kp t5329_7).1, by rw [hsu.2]; exact (t2kp t5329_7).2⟩⟩)⟩, trivial⟩
                  have hL : OkL B0 _ := hB.2.2.2.2.2
                  have hsu := t2kp (x := 1) (y := 0) (a := (κ w).2.2.2) hsu
                  refine W.know (fun hg => ?_)
                  rw [hH0] at hg
                  exact en_i hx hb hr hlocks hL rfl (show 3 ≤ 3 by omega) (show ((0 + 2) + 616) ≤ 618 by omega) dX5_readStatement_132 (⟨_, (fun a h1 h2 => (kp_n h2).trans (hKX a h1)), hT, hF, hsu, Or.inr ⟨hmg1, by rw [kp_a], hg.mono (by omega) (by omega)⟩, Or.inr rfl⟩)
              · refine va_getN (D := D) (ci := 6) (v := .ref a5322) (C := RX6) (T := TX6) (N := 8) hx hb hts iX5_readStatement_6 hown hN.1 hP 0 rfl rfl 3 (by decide) (hN.f 44 rfl) (fun _ h9 => h9) rfl dX5_readStatement_89 ?_
                refine lv_ifnonnull (tgt := 133) hx hb dX5_readStatement_92 (by decide) ?_
                refine lv_aload_n hx hb dX5_readStatement_133 rfl (lv_at hl 0 rfl) ?_
                refine lv_bipush (v := (-2)) hx hb dX5_readStatement_134 (by decide) ?_
                refine lv_aload_n hx hb dX5_readStatement_136 rfl (lv_at hl 0 rfl) ?_
                refine va_get (D := D) (ci := 5) (v := .int (nI f5317_5)) (C := RX5) (T := TX5) (N := 14) hx hb hts iX5_readStatement_5 hown hN.1 hP 1 rfl rfl 5 (by decide) (hts _ mX5_readStatement_7) (fun _ h9 => h9) rfl dX5_readStatement_137 ?_
                refine cv_i (As := [.int (-2), .int (nI f5317_5)]) (rest := []) (b := w) ⟨hx, hb, hml, hown, hts⟩ (c_X5_fail hT (w := w) hw (x := (-2)) (y := (nI f5317_5))) (cwV 2 hts gX5_readStatement_X5_fail rfl rfl rfl hdX5_fail_v ⟨Nat.le_of_ble_eq_true rfl, Nat.le_of_ble_eq_true rfl⟩) hN hE hL (rcv6 hN hT hw.1) rfl rfl hl.1 (Nat.le_of_ble_eq_true rfl) dX5_readStatement_140 (Nat.zero_le _) (Nat.zero_le _) (fun r5330 H1 locs hL hqr5330 => ?_)
                obtain ⟨hT1, hF1, hqr5330⟩ := hqr5330
                have hP : va_P D vwCl [((κ w).2.2.2, .inr (6, [.int (nI f5318_0), .int f5318_1, .int f5318_2, .ref a5322, .ref f5318_4, .ref f5318_5, .ref f5318_6, .ref f5318_7]))] _ := hF1.hP (hP.sub [0] rfl) (fa_c ⟨by rw [hsu.1]; decide, by rw [hsu.2]; first | decide | (simp; done) | (simp; omega)⟩ fa_n)
                have hF := hF.tr (hF1.mono (by simp))
                have hT := hT1
                obtain rfl := hqr5330
                refine W.know (fun hg => ?_)
                rw [hH0] at hg
                exact en_i hx hb hr hlocks hL rfl (Nat.zero_le _) (Nat.zero_le _) dX5_readStatement_143 (⟨_, (fun _ _ _ => rfl), hT, hF, hsu, Or.inl ⟨rfl, hg⟩, Or.inl rfl⟩)
          · refine lv_aload_n hx hb dX5_readStatement_71 rfl (lv_at hl 0 rfl) ?_
            refine cv_i (As := []) (rest := []) (b := w) ⟨hx, hb, hml, hown, hts⟩ (c_X5_readPatience hT (w := w) hw (by first | omega | decide | assumption) (by first | omega | decide | assumption)) (cwV 0 hts gX5_readStatement_X5_readPatience rfl rfl rfl hdX5_readPatience_v ⟨Nat.le_of_ble_eq_true rfl, Nat.le_of_ble_eq_true rfl⟩) hN hE hL (rcv6 hN hT hw.1) rfl rfl hl.1 (Nat.le_of_ble_eq_true rfl) dX5_readStatement_72 (Nat.zero_le _) (Nat.zero_le _) (fun r5331 H1 locs hL hqr5331 => ?_)
            obtain ⟨hT1, hF1, hqr5331⟩ := hqr5331
            have hF := hF.tr (hF1.mono (by simp))
            have hT := hT1
            rcases hqr5331 with rfl | rfl
            · refine W.know (fun hg => ?_)
              rw [hH0] at hg
              exact en_i hx hb hr hlocks hL rfl (Nat.zero_le _) (Nat.zero_le _) dX5_readStatement_75 (⟨_, (fun _ _ _ => rfl), hT, hF, hsu, Or.inl ⟨rfl, hg⟩, Or.inl rfl⟩)
            · refine W.know (fun hg => ?_)
              rw [hH0] at hg
              exact en_i hx hb hr hlocks hL rfl (Nat.zero_le _) (Nat.zero_le _) dX5_readStatement_75 (⟨_, (fun _ _ _ => rfl), hT, hF, hsu, Or.inl ⟨rfl, hg⟩, Or.inr rfl⟩)
      · refine lv_if_eq (tgt := 52) hx hb dX5_readStatement_34 (by decide) (fun c9 => absurd c9 (by decide)) (fun _ => ?_)
        refine lv_aload_n hx hb dX5_readStatement_37 rfl (lv_at hl 0 rfl) ?_
        obtain ⟨hb5332, e5332, hat5332, hk5332⟩ := hT.o6 hw.1
        obtain ⟨f5332_0, f5332_2, f5332_3, f5332_4, f5332_5, f5332_6, f5332_7, f5332_8, f5332_9, f5332_10, f5332_11, f5332_12, f5332_13, rfl, c5332_1, c5332_2, c5332_3, c5332_5, c5332_10, t5332_0, t5332_9, c5332_11, c5332_p2⟩ := hk5332
        obtain rfl : f5332_11 = .ref (κ w).2.2.2 := c5332_p2.resolve_left hs0
        have hP : va_P D vwCl [(w, .inr (5, [.ref f5332_0, .int (nI ((κ w).2.2.1)), .int (nI f5332_2), .int (nI f5332_3), .int f5332_4, .int (nI f5332_5), .int f5332_6, .int f5332_7, .int f5332_8, .ref f5332_9, .int (nI f5332_10), .ref (κ w).2.2.2, .int f5332_12, .int f5332_13]))] _ := va_P.cons hat5332 va_P.nil
        refine va_get (D := D) (ci := 5) (v := .ref (κ w).2.2.2) (C := RX5) (T := TX5) (N := 14) hx hb hts iX5_readStatement_5 hown hN.1 hP 0 rfl rfl 11 (by decide) (hts _ mX5_readStatement_1) (fun _ h9 => h9) rfl dX5_readStatement_38 ?_
        obtain ⟨hb5333, e5333, hat5333, hk5333⟩ := hT.o7 hsu.1
        obtain ⟨f5333_0, f5333_1, f5333_2, f5333_3, f5333_4, f5333_5, f5333_6, f5333_7, rfl, c5333_0, c5333_3, c5333_mg, t5333_4, t5333_5, t5333_6, t5333_7⟩ := hk5333
        rw [hsu.2] at t5333_4
        rw [hsu.2] at t5333_5
        rw [hsu.2] at t5333_6
        rw [hsu.2] at t5333_7
        have hP : va_P D vwCl [((κ w).2.2.2, .inr (6, [.int (nI f5333_0), .int f5333_1, .int f5333_2, f5333_3, .ref f5333_4, .ref f5333_5, .ref f5333_6, .ref f5333_7])), (w, .inr (5, [.ref f5332_0, .int (nI ((κ w).2.2.1)), .int (nI f5332_2), .int (nI f5332_3), .int f5332_4, .int (nI f5332_5), .int f5332_6, .int f5332_7, .int f5332_8, .ref f5332_9, .int (nI f5332_10), .ref (κ w).2.2.2, .int f5332_12, .int f5332_13]))] _ := va_P.cons hat5333 hP
        refine va_getN (D := D) (ci := 6) (v := .int f5333_1) (C := RX6) (T := TX6) (N := 8) hx hb hts iX5_readStatement_6 hown hN.1 hP 0 rfl rfl 1 (by decide) (hN.f 40 rfl) (fun _ h9 => h9) rfl dX5_readStatement_41 ?_
        refine lv_if_ne (tgt := 52) hx hb dX5_readStatement_44 (by decide) (fun c5334 => ?_) (fun c5334 => ?_)
        · refine lv_aload_n hx hb dX5_readStatement_52 rfl (lv_at hl 0 rfl) ?_
          refine va_ldcS hx hb hown (hN.s 5 rfl) dX5_readStatement_53 ?_
          refine cv_i (As := [.ref (cs 105)]) (rest := []) (b := w) ⟨hx, hb, hml, hown, hts⟩ (c_X5_isWord hT (w := w) hw (i := 5) (by decide)) (cwV 1 hts gX5_readStatement_X5_isWord rfl rfl rfl hdX5_isWord_v ⟨Nat.le_of_ble_eq_true rfl, Nat.le_of_ble_eq_true rfl⟩) hN hE hL (rcv6 hN hT hw.1) rfl rfl hl.1 (Nat.le_of_ble_eq_true rfl) dX5_readStatement_55 (Nat.zero_le _) (Nat.zero_le _) (fun r5335 H1 locs hL hqr5335 => ?_)
          obtain ⟨h9, hqr5335⟩ := hqr5335; replace h9 := h9.symm; subst h9
          rcases hqr5335 with rfl | rfl
          · refine lv_if_eq (tgt := 76) hx hb dX5_readStatement_58 (by decide) (fun _ => ?_) (fun c9 => absurd (by decide) c9)
            refine lv_aload_n hx hb dX5_readStatement_76 rfl (lv_at hl 0 rfl) ?_
            refine va_ldcS hx hb hown (hN.s 6 rfl) dX5_readStatement_77 ?_
            refine cv_i (As := [.ref (cs 106)]) (rest := []) (b := w) ⟨hx, hb, hml, hown, hts⟩ (c_X5_isWord hT (w := w) hw (i := 6) (by decide)) (cwV 1 hts gX5_readStatement_X5_isWord rfl rfl rfl hdX5_isWord_v ⟨Nat.le_of_ble_eq_true rfl, Nat.le_of_ble_eq_true rfl⟩) hN hE hL (rcv6 hN hT hw.1) rfl rfl hl.1 (Nat.le_of_ble_eq_true rfl) dX5_readStatement_79 (Nat.zero_le _) (Nat.zero_le _) (fun r5336 H1 locs hL hqr5336 => ?_)
            obtain ⟨h9, hqr5336⟩ := hqr5336; replace h9 := h9.symm; subst h9
            rcases hqr5336 with rfl | rfl
            · refine lv_if_eq (tgt := 133) hx hb dX5_readStatement_82 (by decide) (fun _ => ?_) (fun c9 => absurd (by decide) c9)
              refine lv_aload_n hx hb dX5_readStatement_133 rfl (lv_at hl 0 rfl) ?_
              refine lv_bipush (v := (-2)) hx hb dX5_readStatement_134 (by decide) ?_
              refine lv_aload_n hx hb dX5_readStatement_136 rfl (lv_at hl 0 rfl) ?_
              refine va_get (D := D) (ci := 5) (v := .int (nI f5332_5)) (C := RX5) (T := TX5) (N := 14) hx hb hts iX5_readStatement_5 hown hN.1 hP 1 rfl rfl 5 (by decide) (hts _ mX5_readStatement_7) (fun _ h9 => h9) rfl dX5_readStatement_137 ?_
              refine cv_i (As := [.int (-2), .int (nI f5332_5)]) (rest := []) (b := w) ⟨hx, hb, hml, hown, hts⟩ (c_X5_fail hT (w := w) hw (x := (-2)) (y := (nI f5332_5))) (cwV 2 hts gX5_readStatement_X5_fail rfl rfl rfl hdX5_fail_v ⟨Nat.le_of_ble_eq_true rfl, Nat.le_of_ble_eq_true rfl⟩) hN hE hL (rcv6 hN hT hw.1) rfl rfl hl.1 (Nat.le_of_ble_eq_true rfl) dX5_readStatement_140 (Nat.zero_le _) (Nat.zero_le _) (fun r5337 H1 locs hL hqr5337 => ?_)
              obtain ⟨hT1, hF1, hqr5337⟩ := hqr5337
              have hP : va_P D vwCl [((κ w).2.2.2, .inr (6, [.int (nI f5333_0), .int f5333_1, .int f5333_2, f5333_3, .ref f5333_4, .ref f5333_5, .ref f5333_6, .ref f5333_7]))] _ := hF1.hP (hP.sub [0] rfl) (fa_c ⟨by rw [hsu.1]; decide, by rw [hsu.2]; first | decide | (simp; done) | (simp; omega)⟩ fa_n)
              have hF := hF.tr (hF1.mono (by simp))
              have hT := hT1
              obtain rfl := hqr5337
              refine W.know (fun hg => ?_)
              rw [hH0] at hg
              exact en_i hx hb hr hlocks hL rfl (Nat.zero_le _) (Nat.zero_le _) dX5_readStatement_143 (⟨_, (fun _ _ _ => rfl), hT, hF, hsu, Or.inl ⟨rfl, hg⟩, Or.inl rfl⟩)
            · refine lv_if_eq (tgt := 133) hx hb dX5_readStatement_82 (by decide) (fun c9 => absurd c9 (by decide)) (fun _ => ?_)
              refine lv_aload_n hx hb dX5_readStatement_85 rfl (lv_at hl 0 rfl) ?_
              refine va_get (D := D) (ci := 5) (v := .ref (κ w).2.2.2) (C := RX5) (T := TX5) (N := 14) hx hb hts iX5_readStatement_5 hown hN.1 hP 1 rfl rfl 11 (by decide) (hts _ mX5_readStatement_1) (fun _ h9 => h9) rfl dX5_readStatement_86 ?_
              rcases c5333_3 with rfl | ⟨a5338, rfl, ta5338⟩
              · refine va_getN (D := D) (ci := 6) (v := .null) (C := RX6) (T := TX6) (N := 8) hx hb hts iX5_readStatement_6 hown hN.1 hP 0 rfl rfl 3 (by decide) (hN.f 44 rfl) (fun _ h9 => h9) rfl dX5_readStatement_89 ?_
                refine lv_ifnonnullN hx hb dX5_readStatement_92 ?_
                have hmg1 : (κ (κ w).2.2.2).2.2.1 ≠ 1 := (c5333_mg).resolve_right (by rintro ⟨_, h9⟩; cases h9)
                refine lv_aload_n hx hb dX5_readStatement_95 rfl (lv_at hl 0 rfl) ?_
                refine cv_v (As := []) (rest := []) (b := w) ⟨hx, hb, hml, hown, hts⟩ (c_X5_step hT (w := w) hw) (cwV 0 hts gX5_readStatement_X5_step rfl rfl rfl hdX5_step_v ⟨Nat.le_of_ble_eq_true rfl, Nat.le_of_ble_eq_true rfl⟩) hN hE hL (rcv6 hN hT hw.1) rfl rfl hl.1 (Nat.le_of_ble_eq_true rfl) dX5_readStatement_96 (Nat.zero_le _) (Nat.zero_le _) (fun H1 locs hL hqr5339 => ?_)
                obtain ⟨hT1, hF1, hqr5339⟩ := hqr5339
                have hP : va_P D vwCl [((κ w).2.2.2, .inr (6, [.int (nI f5333_0), .int f5333_1, .int f5333_2, .null, .ref f5333_4, .ref f5333_5, .ref f5333_6, .ref f5333_7]))] _ := hF1.hP (hP.sub [0] rfl) (fa_c ⟨by rw [hsu.1]; decide, by rw [hsu.2]; first | decide | (simp; done) | (simp; omega)⟩ fa_n)
                have hF := hF.tr (hF1.mono (by simp))
                have hT := hT1
                have f5340 := hqr5339
                refine lv_aload_n hx hb dX5_readStatement_99 rfl (lv_at hl 0 rfl) ?_
                refine lv_iconst (v := 0) hx hb dX5_readStatement_100 (by decide) ?_
                refine cv_i (As := [.int 0]) (rest := []) (b := w) ⟨hx, hb, hml, hown, hts⟩ (c_X5_readSum_d0 hT (w := w) hw) (cwV 1 hts gX5_readStatement_X5_readSum rfl rfl rfl hdX5_readSum_v ⟨Nat.le_of_ble_eq_true rfl, Nat.le_of_ble_eq_true rfl⟩) hN hE hL (rcv6 hN hT hw.1) rfl rfl hl.1 (Nat.le_of_ble_eq_true rfl) dX5_readStatement_101 (Nat.zero_le _) (Nat.zero_le _) (fun r5341 H1 locs hL hqr5341 => ?_)
                obtain ⟨hT1, hF1, hqr5341⟩ := hqr5341
                have hP : va_P D vwCl [((κ w).2.2.2, .inr (6, [.int (nI f5333_0), .int f5333_1, .int f5333_2, .null, .ref f5333_4, .ref f5333_5, .ref f5333_6, .ref f5333_7]))] _ := hF1.hP (hP.sub [0] rfl) (fa_c ⟨by rw [hsu.1]; decide, by rw [hsu.2]; first | decide | (simp; done) | (simp; omega)⟩ fa_n)
                have hF := hF.tr (hF1.mono (by simp))
                have hT := hT1
                rcases hqr5341 with rfl | rfl
                · refine lv_if_ne (tgt := 109) hx hb dX5_readStatement_104 (by decide) (fun c9 => absurd (by decide) c9) (fun _ => ?_)
                  refine lv_iconst (v := 0) hx hb dX5_readStatement_107 (by decide) ?_
                  refine W.know (fun hg => ?_)
                  rw [hH0] at hg
                  exact en_i hx hb hr hlocks hL rfl (Nat.zero_le _) (Nat.zero_le _) dX5_readStatement_108 (⟨_, (fun _ _ _ => rfl), hT, hF, hsu, Or.inl ⟨rfl, hg⟩, Or.inl rfl⟩)
                · refine lv_if_ne (tgt := 109) hx hb dX5_readStatement_104 (by decide) (fun _ => ?_) (fun c9 => absurd c9 (by decide))
                  refine lv_aload_n hx hb dX5_readStatement_109 rfl (lv_at hl 0 rfl) ?_
                  obtain ⟨hb5342, e5342, hat5342, hk5342⟩ := hT.o6 hw.1
                  obtain ⟨f5342_0, f5342_2, f5342_3, f5342_4, f5342_5, f5342_6, f5342_7, f5342_8, f5342_9, f5342_10, f5342_11, f5342_12, f5342_13, rfl, c5342_1, c5342_2, c5342_3, c5342_5, c5342_10, t5342_0, t5342_9, c5342_11, c5342_p2⟩ := hk5342
                  obtain rfl : f5342_11 = .ref (κ w).2.2.2 := c5342_p2.resolve_left hs0
                  have hP : va_P D vwCl [(w, .inr (5, [.ref f5342_0, .int (nI ((κ w).2.2.1)), .int (nI f5342_2), .int (nI f5342_3), .int f5342_4, .int (nI f5342_5), .int f5342_6, .int f5342_7, .int f5342_8, .ref f5342_9, .int (nI f5342_10), .ref (κ w).2.2.2, .int f5342_12, .int f5342_13])), ((κ w).2.2.2, .inr (6, [.int (nI f5333_0), .int f5333_1, .int f5333_2, .null, .ref f5333_4, .ref f5333_5, .ref f5333_6, .ref f5333_7]))] _ := va_P.cons hat5342 hP
                  refine va_get (D := D) (ci := 5) (v := .ref (κ w).2.2.2) (C := RX5) (T := TX5) (N := 14) hx hb hts iX5_readStatement_5 hown hN.1 hP 0 rfl rfl 11 (by decide) (hts _ mX5_readStatement_1) (fun _ h9 => h9) rfl dX5_readStatement_110 ?_
                  have hb0 : B0 ≤ _ := hT.b0 hw (by decide)
                  have hB : Bx B0 D _ [(w, .inr (5, [.ref f5342_0, .int (nI ((κ w).2.2.1)), .int (nI f5342_2), .int (nI f5342_3), .int f5342_4, .int (nI f5342_5), .int f5342_6, .int f5342_7, .int f5342_8, .ref f5342_9, .int (nI f5342_10), .ref (κ w).2.2.2, .int f5342_12, .int f5342_13])), ((κ w).2.2.2, .inr (6, [.int (nI f5333_0), .int f5333_1, .int f5333_2, .null, .ref f5333_4, .ref f5333_5, .ref f5333_6, .ref f5333_7]))] [] _ _ := Bx.of (fun a => (κ a).1) hL hP (fa_c hb5342 (fa_c hb5333 fa_n)) (by simp only [List.map_cons, List.map_nil, hw.1, hsu.1]; decide)
                  refine nw_o (ci := 0) (fs := [.null, .null]) (C := RX0) (T := TX0) (N := 2) hx hb hts iX5_readStatement_0 tyX0 tyX0_ok hown (hts _ mX5_readStatement_2) (hts _ mX5_readStatement_3) (hts _ mX5_readStatement_4) hN rfl dfl0 (show 0 + 1 ≤ 3 by omega) (show 0 + 2 ≤ 618 by omega) dX5_readStatement_113 (fun q5343 H heq5343 hzq5343 hoq5343 hatq5343 => ?_)
                  have hgeq5343 : _ ≤ q5343 := Nat.le_trans hB.2.2.1 (Nat.le_of_eq heq5343.symm)
                  have hbq5343 : B0 ≤ q5343 := Nat.le_trans hb0 hgeq5343
                  have hfq5343 : (κ q5343).1 = 0 := hT.fresh hgeq5343
                  have hB := hB.nw heq5343 hzq5343 hoq5343 hatq5343 hb0
                  have hB : Bx B0 D _ [(w, .inr (5, [.ref f5342_0, .int (nI ((κ w).2.2.1)), .int (nI f5342_2), .int (nI f5342_3), .int f5342_4, .int (nI f5342_5), .int f5342_6, .int f5342_7, .int f5342_8, .ref f5342_9, .int (nI f5342_10), .ref (κ w).2.2.2, .int f5342_12, .int f5342_13])), ((κ w).2.2.2, .inr (6, [.int (nI f5333_0), .int f5333_1, .int f5333_2, .null, .ref f5333_4, .ref f5333_5, .ref f5333_6, .ref f5333_7])), (q5343, .inr (0, [.null, .null]))] [] _ _ := hB
                  refine lv_dup hx hb dX5_readStatement_116 rfl ?_
                  refine lv_aload_n hx hb dX5_readStatement_117 rfl (lv_at hl 0 rfl) ?_
                  refine va_get (D := D) (ci := 5) (v := .ref f5342_9) (C := RX5) (T := TX5) (N := 14) hx hb hts iX5_readStatement_5 hown hN.1 hB.1 0 rfl rfl 9 (by decide) (hts _ mX5_readStatement_5) (fun _ h9 => h9) rfl dX5_readStatement_118 ?_
                  refine lv_aload_n hx hb dX5_readStatement_121 rfl (lv_at hl 0 rfl) ?_
                  refine va_get (D := D) (ci := 5) (v := .int (nI f5342_10)) (C := RX5) (T := TX5) (N := 14) hx hb hts iX5_readStatement_5 hown hN.1 hB.1 0 rfl rfl 10 (by decide) (hts _ mX5_readStatement_6) (fun _ h9 => h9) rfl dX5_readStatement_122 ?_
                  have hT : WT B0 D cs T κ _ := hT.close hB trivial
                  have hF : Fr B0 [10, 11] κ H0 _ := hF.close hB fa_n
                  have hL : OkL B0 _ := hB.2.2.2.2.2
                  have hP : va_P D vwCl [(w, .inr (5, [.ref f5342_0, .int (nI ((κ w).2.2.1)), .int (nI f5342_2), .int (nI f5342_3), .int f5342_4, .int (nI f5342_5), .int f5342_6, .int f5342_7, .int f5342_8, .ref f5342_9, .int (nI f5342_10), .ref (κ w).2.2.2, .int f5342_12, .int f5342_13])), ((κ w).2.2.2, .inr (6, [.int (nI f5333_0), .int f5333_1, .int f5333_2, .null, .ref f5333_4, .ref f5333_5, .ref f5333_6, .ref f5333_7])), (q5343, .inr (0, [.null, .null]))] _ := hB.1
                  refine ci_v (As := [.ref f5342_9, .int (nI f5342_10)]) (rest := [.ref q5343, .ref (κ w).2.2.2]) (b := q5343) ⟨hx, hb, hml, hown, hts⟩ (c_X0_init hT (w := q5343) hfq5343 hbq5343 (hP 2 _ rfl) (v := f5342_9) t5342_9 (n := f5342_10) (by first | omega | decide | assumption)) (cwI 2 hts gX5_readStatement_X0_init rfl rfl rfl (hts _ mX5_readStatement_4) (hts _ mX5_readStatement_156) (hts _ mX5_readStatement_157) rfl hdX0_init_o ⟨Nat.le_of_ble_eq_true rfl, Nat.le_of_ble_eq_true rfl⟩) hN hE hL rfl rfl hl.1 (Nat.le_of_ble_eq_true rfl) dX5_readStatement_125 (show 1 + 2 ≤ 3 by omega) (show (0 + 2) + 616 ≤ 618 by omega) (fun H1 locs hL hqr5344 => ?_)
                  obtain ⟨κr5344, hxr5344, hT1, hF1, hqr5344⟩ := hqr5344
                  have hF := hF.tr (hF1.mono (by simp))
                  have hT := hT1
                  have hKF : KF κ κr5344 := hxr5344.f
                  have hKX : KX κ κr5344 := hxr5344
                  have hw := (hxr5344.f.t2 hw (by decide))
                  have hsu := (hxr5344.f.t2 hsu (by decide))
                  have hq5343 := hqr5344
                  obtain ⟨hb5345, e5345, hat5345, hk5345⟩ := hT.o7 hsu.1
                  obtain ⟨f5345_0, f5345_1, f5345_2, f5345_3, f5345_4, f5345_5, f5345_6, f5345_7, rfl, c5345_0, c5345_3, c5345_mg, t5345_4, t5345_5, t5345_6, t5345_7⟩ := hk5345
                  rw [hsu.2] at t5345_4
                  rw [hsu.2] at t5345_5
                  rw [hsu.2] at t5345_6
                  rw [hsu.2] at t5345_7
                  have hP : va_P D vwCl [((κ w).2.2.2, .inr (6, [.int (nI f5345_0), .int f5345_1, .int f5345_2, f5345_3, .ref f5345_4, .ref f5345_5, .ref f5345_6, .ref f5345_7]))] _ := va_P.cons hat5345 va_P.nil
                  have hB : Bx B0 D _ [((κ w).2.2.2, .inr (6, [.int (nI f5345_0), .int f5345_1, .int f5345_2, f5345_3, .ref f5345_4, .ref f5345_5, .ref f5345_6, .ref f5345_7]))] [] _ _ := Bx.of (fun a => (κr5344 a).1) hL hP (fa_c hb5345 fa_n) (by simp only [List.map_cons, List.map_nil, hsu.1]; decide)
                  refine b_putN (D := D) (ci := 6) (v := .ref q5343) (ty := .object "OneBeat$Formula") (C := RX6) (T := TX6) (N := 8) hx hb hts iX5_readStatement_6 tyX6 tyX6_ok nmX6 hown hN hB 0 rfl rfl 3 (by decide) (hN.f 44 rfl) (fun _ h9 => h9) rfl (by decide +kernel) rfl rfl (Nat.le_of_ble_eq_true rfl) (.inl rfl) dX5_readStatement_128 (fun H locs hB => ?_)
                  have hB : Bx B0 D _ [((κ w).2.2.2, .inr (6, [.int (nI f5345_0), .int f5345_1, .int f5345_2, .ref q5343, .ref f5345_4, .ref f5345_5, .ref f5345_6, .ref f5345_7]))] [(κ w).2.2.2] _ _ := hB
                  refine lv_iconst (v := 1) hx hb dX5_readStatement_131 (by decide) ?_
                  have hF : Fr B0 [10, 11] κ H0 _ := hF.closeN hB (fa_c (fun h9 => by rw [← (hKF _ h9).2, hsu.2]; simp) fa_n)
                  have hT : WT B0 D cs T (kp κr5344 (κ w).2.2.2 1 0) _ := hT.closeK (κ w).2.2.2 1 0 hB (by rw [hsu.1]; decide) (by rw [hsu.1]; decide) (List.mem_of_getElem? (i := 0) rfl) ⟨⟨0, _, rfl, kp_ok (ok_7 (k := ((κr5344 (κ w).2.2.2).1, (κr5344 (κ w).2.2.2).2.1, _, _)) hsu.1 ⟨_, _, _, _, _, _, _, _, rfl, (by omega), (Or.inr ⟨_, rfl, (t2kp hq5343)⟩), (Or.inr ⟨_, rfl⟩), ⟨(t2kp t5345_4).1, by rw [hsu.2]; exact (t2kp t5345_4).2⟩, ⟨(t2kp t5345_5).1, by rw [hsu.2]; exact (t2kp t5345_5).2⟩, ⟨(t2kp t5345_6).1, by rw [hsu.2]; exact (t2kp t5345_6).2⟩, ⟨(t2kp t5345_7).1, by rw [hsu.2]; exact (t2kp t5345_7).2⟩⟩)⟩, trivial⟩
                  have hL : OkL B0 _ := hB.2.2.2.2.2
                  have hsu := t2kp (x := 1) (y := 0) (a := (κ w).2.2.2) hsu
                  refine W.know (fun hg => ?_)
                  rw [hH0] at hg
                  exact en_i hx hb hr hlocks hL rfl (show 3 ≤ 3 by omega) (show ((0 + 2) + 616) ≤ 618 by omega) dX5_readStatement_132 (⟨_, (fun a h1 h2 => (kp_n h2).trans (hKX a h1)), hT, hF, hsu, Or.inr ⟨hmg1, by rw [kp_a], hg.mono (by omega) (by omega)⟩, Or.inr rfl⟩)
              · refine va_getN (D := D) (ci := 6) (v := .ref a5338) (C := RX6) (T := TX6) (N := 8) hx hb hts iX5_readStatement_6 hown hN.1 hP 0 rfl rfl 3 (by decide) (hN.f 44 rfl) (fun _ h9 => h9) rfl dX5_readStatement_89 ?_
                refine lv_ifnonnull (tgt := 133) hx hb dX5_readStatement_92 (by decide) ?_
                refine lv_aload_n hx hb dX5_readStatement_133 rfl (lv_at hl 0 rfl) ?_
                refine lv_bipush (v := (-2)) hx hb dX5_readStatement_134 (by decide) ?_
                refine lv_aload_n hx hb dX5_readStatement_136 rfl (lv_at hl 0 rfl) ?_
                refine va_get (D := D) (ci := 5) (v := .int (nI f5332_5)) (C := RX5) (T := TX5) (N := 14) hx hb hts iX5_readStatement_5 hown hN.1 hP 1 rfl rfl 5 (by decide) (hts _ mX5_readStatement_7) (fun _ h9 => h9) rfl dX5_readStatement_137 ?_
                refine cv_i (As := [.int (-2), .int (nI f5332_5)]) (rest := []) (b := w) ⟨hx, hb, hml, hown, hts⟩ (c_X5_fail hT (w := w) hw (x := (-2)) (y := (nI f5332_5))) (cwV 2 hts gX5_readStatement_X5_fail rfl rfl rfl hdX5_fail_v ⟨Nat.le_of_ble_eq_true rfl, Nat.le_of_ble_eq_true rfl⟩) hN hE hL (rcv6 hN hT hw.1) rfl rfl hl.1 (Nat.le_of_ble_eq_true rfl) dX5_readStatement_140 (Nat.zero_le _) (Nat.zero_le _) (fun r5346 H1 locs hL hqr5346 => ?_)
                obtain ⟨hT1, hF1, hqr5346⟩ := hqr5346
                have hP : va_P D vwCl [((κ w).2.2.2, .inr (6, [.int (nI f5333_0), .int f5333_1, .int f5333_2, .ref a5338, .ref f5333_4, .ref f5333_5, .ref f5333_6, .ref f5333_7]))] _ := hF1.hP (hP.sub [0] rfl) (fa_c ⟨by rw [hsu.1]; decide, by rw [hsu.2]; first | decide | (simp; done) | (simp; omega)⟩ fa_n)
                have hF := hF.tr (hF1.mono (by simp))
                have hT := hT1
                obtain rfl := hqr5346
                refine W.know (fun hg => ?_)
                rw [hH0] at hg
                exact en_i hx hb hr hlocks hL rfl (Nat.zero_le _) (Nat.zero_le _) dX5_readStatement_143 (⟨_, (fun _ _ _ => rfl), hT, hF, hsu, Or.inl ⟨rfl, hg⟩, Or.inl rfl⟩)
          · refine lv_if_eq (tgt := 76) hx hb dX5_readStatement_58 (by decide) (fun c9 => absurd c9 (by decide)) (fun _ => ?_)
            refine lv_aload_n hx hb dX5_readStatement_61 rfl (lv_at hl 0 rfl) ?_
            refine va_get (D := D) (ci := 5) (v := .ref (κ w).2.2.2) (C := RX5) (T := TX5) (N := 14) hx hb hts iX5_readStatement_5 hown hN.1 hP 1 rfl rfl 11 (by decide) (hts _ mX5_readStatement_1) (fun _ h9 => h9) rfl dX5_readStatement_62 ?_
            refine va_getN (D := D) (ci := 6) (v := .int f5333_2) (C := RX6) (T := TX6) (N := 8) hx hb hts iX5_readStatement_6 hown hN.1 hP 0 rfl rfl 2 (by decide) (hN.f 42 rfl) (fun _ h9 => h9) rfl dX5_readStatement_65 ?_
            refine lv_if_ne (tgt := 76) hx hb dX5_readStatement_68 (by decide) (fun c5347 => ?_) (fun c5347 => ?_)
            · refine lv_aload_n hx hb dX5_readStatement_76 rfl (lv_at hl 0 rfl) ?_
              refine va_ldcS hx hb hown (hN.s 6 rfl) dX5_readStatement_77 ?_
              refine cv_i (As := [.ref (cs 106)]) (rest := []) (b := w) ⟨hx, hb, hml, hown, hts⟩ (c_X5_isWord hT (w := w) hw (i := 6) (by decide)) (cwV 1 hts gX5_readStatement_X5_isWord rfl rfl rfl hdX5_isWord_v ⟨Nat.le_of_ble_eq_true rfl, Nat.le_of_ble_eq_true rfl⟩) hN hE hL (rcv6 hN hT hw.1) rfl rfl hl.1 (Nat.le_of_ble_eq_true rfl) dX5_readStatement_79 (Nat.zero_le _) (Nat.zero_le _) (fun r5348 H1 locs hL hqr5348 => ?_)
              obtain ⟨h9, hqr5348⟩ := hqr5348; replace h9 := h9.symm; subst h9
              rcases hqr5348 with rfl | rfl
              · refine lv_if_eq (tgt := 133) hx hb dX5_readStatement_82 (by decide) (fun _ => ?_) (fun c9 => absurd (by decide) c9)
                refine lv_aload_n hx hb dX5_readStatement_133 rfl (lv_at hl 0 rfl) ?_
                refine lv_bipush (v := (-2)) hx hb dX5_readStatement_134 (by decide) ?_
                refine lv_aload_n hx hb dX5_readStatement_136 rfl (lv_at hl 0 rfl) ?_
                refine va_get (D := D) (ci := 5) (v := .int (nI f5332_5)) (C := RX5) (T := TX5) (N := 14) hx hb hts iX5_readStatement_5 hown hN.1 hP 1 rfl rfl 5 (by decide) (hts _ mX5_readStatement_7) (fun _ h9 => h9) rfl dX5_readStatement_137 ?_
                refine cv_i (As := [.int (-2), .int (nI f5332_5)]) (rest := []) (b := w) ⟨hx, hb, hml, hown, hts⟩ (c_X5_fail hT (w := w) hw (x := (-2)) (y := (nI f5332_5))) (cwV 2 hts gX5_readStatement_X5_fail rfl rfl rfl hdX5_fail_v ⟨Nat.le_of_ble_eq_true rfl, Nat.le_of_ble_eq_true rfl⟩) hN hE hL (rcv6 hN hT hw.1) rfl rfl hl.1 (Nat.le_of_ble_eq_true rfl) dX5_readStatement_140 (Nat.zero_le _) (Nat.zero_le _) (fun r5349 H1 locs hL hqr5349 => ?_)
                obtain ⟨hT1, hF1, hqr5349⟩ := hqr5349
                have hP : va_P D vwCl [((κ w).2.2.2, .inr (6, [.int (nI f5333_0), .int f5333_1, .int f5333_2, f5333_3, .ref f5333_4, .ref f5333_5, .ref f5333_6, .ref f5333_7]))] _ := hF1.hP (hP.sub [0] rfl) (fa_c ⟨by rw [hsu.1]; decide, by rw [hsu.2]; first | decide | (simp; done) | (simp; omega)⟩ fa_n)
                have hF := hF.tr (hF1.mono (by simp))
                have hT := hT1
                obtain rfl := hqr5349
                refine W.know (fun hg => ?_)
                rw [hH0] at hg
                exact en_i hx hb hr hlocks hL rfl (Nat.zero_le _) (Nat.zero_le _) dX5_readStatement_143 (⟨_, (fun _ _ _ => rfl), hT, hF, hsu, Or.inl ⟨rfl, hg⟩, Or.inl rfl⟩)
              · refine lv_if_eq (tgt := 133) hx hb dX5_readStatement_82 (by decide) (fun c9 => absurd c9 (by decide)) (fun _ => ?_)
                refine lv_aload_n hx hb dX5_readStatement_85 rfl (lv_at hl 0 rfl) ?_
                refine va_get (D := D) (ci := 5) (v := .ref (κ w).2.2.2) (C := RX5) (T := TX5) (N := 14) hx hb hts iX5_readStatement_5 hown hN.1 hP 1 rfl rfl 11 (by decide) (hts _ mX5_readStatement_1) (fun _ h9 => h9) rfl dX5_readStatement_86 ?_
                rcases c5333_3 with rfl | ⟨a5350, rfl, ta5350⟩
                · refine va_getN (D := D) (ci := 6) (v := .null) (C := RX6) (T := TX6) (N := 8) hx hb hts iX5_readStatement_6 hown hN.1 hP 0 rfl rfl 3 (by decide) (hN.f 44 rfl) (fun _ h9 => h9) rfl dX5_readStatement_89 ?_
                  refine lv_ifnonnullN hx hb dX5_readStatement_92 ?_
                  have hmg1 : (κ (κ w).2.2.2).2.2.1 ≠ 1 := (c5333_mg).resolve_right (by rintro ⟨_, h9⟩; cases h9)
                  refine lv_aload_n hx hb dX5_readStatement_95 rfl (lv_at hl 0 rfl) ?_
                  refine cv_v (As := []) (rest := []) (b := w) ⟨hx, hb, hml, hown, hts⟩ (c_X5_step hT (w := w) hw) (cwV 0 hts gX5_readStatement_X5_step rfl rfl rfl hdX5_step_v ⟨Nat.le_of_ble_eq_true rfl, Nat.le_of_ble_eq_true rfl⟩) hN hE hL (rcv6 hN hT hw.1) rfl rfl hl.1 (Nat.le_of_ble_eq_true rfl) dX5_readStatement_96 (Nat.zero_le _) (Nat.zero_le _) (fun H1 locs hL hqr5351 => ?_)
                  obtain ⟨hT1, hF1, hqr5351⟩ := hqr5351
                  have hP : va_P D vwCl [((κ w).2.2.2, .inr (6, [.int (nI f5333_0), .int f5333_1, .int f5333_2, .null, .ref f5333_4, .ref f5333_5, .ref f5333_6, .ref f5333_7]))] _ := hF1.hP (hP.sub [0] rfl) (fa_c ⟨by rw [hsu.1]; decide, by rw [hsu.2]; first | decide | (simp; done) | (simp; omega)⟩ fa_n)
                  have hF := hF.tr (hF1.mono (by simp))
                  have hT := hT1
                  have f5352 := hqr5351
                  refine lv_aload_n hx hb dX5_readStatement_99 rfl (lv_at hl 0 rfl) ?_
                  refine lv_iconst (v := 0) hx hb dX5_readStatement_100 (by decide) ?_
                  refine cv_i (As := [.int 0]) (rest := []) (b := w) ⟨hx, hb, hml, hown, hts⟩ (c_X5_readSum_d0 hT (w := w) hw) (cwV 1 hts gX5_readStatement_X5_readSum rfl rfl rfl hdX5_readSum_v ⟨Nat.le_of_ble_eq_true rfl, Nat.le_of_ble_eq_true rfl⟩) hN hE hL (rcv6 hN hT hw.1) rfl rfl hl.1 (Nat.le_of_ble_eq_true rfl) dX5_readStatement_101 (Nat.zero_le _) (Nat.zero_le _) (fun r5353 H1 locs hL hqr5353 => ?_)
                  obtain ⟨hT1, hF1, hqr5353⟩ := hqr5353
                  have hP : va_P D vwCl [((κ w).2.2.2, .inr (6, [.int (nI f5333_0), .int f5333_1, .int f5333_2, .null, .ref f5333_4, .ref f5333_5, .ref f5333_6, .ref f5333_7]))] _ := hF1.hP (hP.sub [0] rfl) (fa_c ⟨by rw [hsu.1]; decide, by rw [hsu.2]; first | decide | (simp; done) | (simp; omega)⟩ fa_n)
                  have hF := hF.tr (hF1.mono (by simp))
                  have hT := hT1
                  rcases hqr5353 with rfl | rfl
                  · refine lv_if_ne (tgt := 109) hx hb dX5_readStatement_104 (by decide) (fun c9 => absurd (by decide) c9) (fun _ => ?_)
                    refine lv_iconst (v := 0) hx hb dX5_readStatement_107 (by decide) ?_
                    refine W.know (fun hg => ?_)
                    rw [hH0] at hg
                    exact en_i hx hb hr hlocks hL rfl (Nat.zero_le _) (Nat.zero_le _) dX5_readStatement_108 (⟨_, (fun _ _ _ => rfl), hT, hF, hsu, Or.inl ⟨rfl, hg⟩, Or.inl rfl⟩)
                  · refine lv_if_ne (tgt := 109) hx hb dX5_readStatement_104 (by decide) (fun _ => ?_) (fun c9 => absurd c9 (by decide))
                    refine lv_aload_n hx hb dX5_readStatement_109 rfl (lv_at hl 0 rfl) ?_
                    obtain ⟨hb5354, e5354, hat5354, hk5354⟩ := hT.o6 hw.1
                    obtain ⟨f5354_0, f5354_2, f5354_3, f5354_4, f5354_5, f5354_6, f5354_7, f5354_8, f5354_9, f5354_10, f5354_11, f5354_12, f5354_13, rfl, c5354_1, c5354_2, c5354_3, c5354_5, c5354_10, t5354_0, t5354_9, c5354_11, c5354_p2⟩ := hk5354
                    obtain rfl : f5354_11 = .ref (κ w).2.2.2 := c5354_p2.resolve_left hs0
                    have hP : va_P D vwCl [(w, .inr (5, [.ref f5354_0, .int (nI ((κ w).2.2.1)), .int (nI f5354_2), .int (nI f5354_3), .int f5354_4, .int (nI f5354_5), .int f5354_6, .int f5354_7, .int f5354_8, .ref f5354_9, .int (nI f5354_10), .ref (κ w).2.2.2, .int f5354_12, .int f5354_13])), ((κ w).2.2.2, .inr (6, [.int (nI f5333_0), .int f5333_1, .int f5333_2, .null, .ref f5333_4, .ref f5333_5, .ref f5333_6, .ref f5333_7]))] _ := va_P.cons hat5354 hP
                    refine va_get (D := D) (ci := 5) (v := .ref (κ w).2.2.2) (C := RX5) (T := TX5) (N := 14) hx hb hts iX5_readStatement_5 hown hN.1 hP 0 rfl rfl 11 (by decide) (hts _ mX5_readStatement_1) (fun _ h9 => h9) rfl dX5_readStatement_110 ?_
                    have hb0 : B0 ≤ _ := hT.b0 hw (by decide)
                    have hB : Bx B0 D _ [(w, .inr (5, [.ref f5354_0, .int (nI ((κ w).2.2.1)), .int (nI f5354_2), .int (nI f5354_3), .int f5354_4, .int (nI f5354_5), .int f5354_6, .int f5354_7, .int f5354_8, .ref f5354_9, .int (nI f5354_10), .ref (κ w).2.2.2, .int f5354_12, .int f5354_13])), ((κ w).2.2.2, .inr (6, [.int (nI f5333_0), .int f5333_1, .int f5333_2, .null, .ref f5333_4, .ref f5333_5, .ref f5333_6, .ref f5333_7]))] [] _ _ := Bx.of (fun a => (κ a).1) hL hP (fa_c hb5354 (fa_c hb5333 fa_n)) (by simp only [List.map_cons, List.map_nil, hw.1, hsu.1]; decide)
                    refine nw_o (ci := 0) (fs := [.null, .null]) (C := RX0) (T := TX0) (N := 2) hx hb hts iX5_readStatement_0 tyX0 tyX0_ok hown (hts _ mX5_readStatement_2) (hts _ mX5_readStatement_3) (hts _ mX5_readStatement_4) hN rfl dfl0 (show 0 + 1 ≤ 3 by omega) (show 0 + 2 ≤ 618 by omega) dX5_readStatement_113 (fun q5355 H heq5355 hzq5355 hoq5355 hatq5355 => ?_)
                    have hgeq5355 : _ ≤ q5355 := Nat.le_trans hB.2.2.1 (Nat.le_of_eq heq5355.symm)
                    have hbq5355 : B0 ≤ q5355 := Nat.le_trans hb0 hgeq5355
                    have hfq5355 : (κ q5355).1 = 0 := hT.fresh hgeq5355
                    have hB := hB.nw heq5355 hzq5355 hoq5355 hatq5355 hb0
                    have hB : Bx B0 D _ [(w, .inr (5, [.ref f5354_0, .int (nI ((κ w).2.2.1)), .int (nI f5354_2), .int (nI f5354_3), .int f5354_4, .int (nI f5354_5), .int f5354_6, .int f5354_7, .int f5354_8, .ref f5354_9, .int (nI f5354_10), .ref (κ w).2.2.2, .int f5354_12, .int f5354_13])), ((κ w).2.2.2, .inr (6, [.int (nI f5333_0), .int f5333_1, .int f5333_2, .null, .ref f5333_4, .ref f5333_5, .ref f5333_6, .ref f5333_7])), (q5355, .inr (0, [.null, .null]))] [] _ _ := hB
                    refine lv_dup hx hb dX5_readStatement_116 rfl ?_
                    refine lv_aload_n hx hb dX5_readStatement_117 rfl (lv_at hl 0 rfl) ?_
                    refine va_get (D := D) (ci := 5) (v := .ref f5354_9) (C := RX5) (T := TX5) (N := 14) hx hb hts iX5_readStatement_5 hown hN.1 hB.1 0 rfl rfl 9 (by decide) (hts _ mX5_readStatement_5) (fun _ h9 => h9) rfl dX5_readStatement_118 ?_
                    refine lv_aload_n hx hb dX5_readStatement_121 rfl (lv_at hl 0 rfl) ?_
                    refine va_get (D := D) (ci := 5) (v := .int (nI f5354_10)) (C := RX5) (T := TX5) (N := 14) hx hb hts iX5_readStatement_5 hown hN.1 hB.1 0 rfl rfl 10 (by decide) (hts _ mX5_readStatement_6) (fun _ h9 => h9) rfl dX5_readStatement_122 ?_
                    have hT : WT B0 D cs T κ _ := hT.close hB trivial
                    have hF : Fr B0 [10, 11] κ H0 _ := hF.close hB fa_n
                    have hL : OkL B0 _ := hB.2.2.2.2.2
                    have hP : va_P D vwCl [(w, .inr (5, [.ref f5354_0, .int (nI ((κ w).2.2.1)), .int (nI f5354_2), .int (nI f5354_3), .int f5354_4, .int (nI f5354_5), .int f5354_6, .int f5354_7, .int f5354_8, .ref f5354_9, .int (nI f5354_10), .ref (κ w).2.2.2, .int f5354_12, .int f5354_13])), ((κ w).2.2.2, .inr (6, [.int (nI f5333_0), .int f5333_1, .int f5333_2, .null, .ref f5333_4, .ref f5333_5, .ref f5333_6, .ref f5333_7])), (q5355, .inr (0, [.null, .null]))] _ := hB.1
                    refine ci_v (As := [.ref f5354_9, .int (nI f5354_10)]) (rest := [.ref q5355, .ref (κ w).2.2.2]) (b := q5355) ⟨hx, hb, hml, hown, hts⟩ (c_X0_init hT (w := q5355) hfq5355 hbq5355 (hP 2 _ rfl) (v := f5354_9) t5354_9 (n := f5354_10) (by first | omega | decide | assumption)) (cwI 2 hts gX5_readStatement_X0_init rfl rfl rfl (hts _ mX5_readStatement_4) (hts _ mX5_readStatement_156) (hts _ mX5_readStatement_157) rfl hdX0_init_o ⟨Nat.le_of_ble_eq_true rfl, Nat.le_of_ble_eq_true rfl⟩) hN hE hL rfl rfl hl.1 (Nat.le_of_ble_eq_true rfl) dX5_readStatement_125 (show 1 + 2 ≤ 3 by omega) (show (0 + 2) + 616 ≤ 618 by omega) (fun H1 locs hL hqr5356 => ?_)
                    obtain ⟨κr5356, hxr5356, hT1, hF1, hqr5356⟩ := hqr5356
                    have hF := hF.tr (hF1.mono (by simp))
                    have hT := hT1
                    have hKF : KF κ κr5356 := hxr5356.f
                    have hKX : KX κ κr5356 := hxr5356
                    have hw := (hxr5356.f.t2 hw (by decide))
                    have hsu := (hxr5356.f.t2 hsu (by decide))
                    have hq5355 := hqr5356
                    obtain ⟨hb5357, e5357, hat5357, hk5357⟩ := hT.o7 hsu.1
                    obtain ⟨f5357_0, f5357_1, f5357_2, f5357_3, f5357_4, f5357_5, f5357_6, f5357_7, rfl, c5357_0, c5357_3, c5357_mg, t5357_4, t5357_5, t5357_6, t5357_7⟩ := hk5357
                    rw [hsu.2] at t5357_4
                    rw [hsu.2] at t5357_5
                    rw [hsu.2] at t5357_6
                    rw [hsu.2] at t5357_7
                    have hP : va_P D vwCl [((κ w).2.2.2, .inr (6, [.int (nI f5357_0), .int f5357_1, .int f5357_2, f5357_3, .ref f5357_4, .ref f5357_5, .ref f5357_6, .ref f5357_7]))] _ := va_P.cons hat5357 va_P.nil
                    have hB : Bx B0 D _ [((κ w).2.2.2, .inr (6, [.int (nI f5357_0), .int f5357_1, .int f5357_2, f5357_3, .ref f5357_4, .ref f5357_5, .ref f5357_6, .ref f5357_7]))] [] _ _ := Bx.of (fun a => (κr5356 a).1) hL hP (fa_c hb5357 fa_n) (by simp only [List.map_cons, List.map_nil, hsu.1]; decide)
                    refine b_putN (D := D) (ci := 6) (v := .ref q5355) (ty := .object "OneBeat$Formula") (C := RX6) (T := TX6) (N := 8) hx hb hts iX5_readStatement_6 tyX6 tyX6_ok nmX6 hown hN hB 0 rfl rfl 3 (by decide) (hN.f 44 rfl) (fun _ h9 => h9) rfl (by decide +kernel) rfl rfl (Nat.le_of_ble_eq_true rfl) (.inl rfl) dX5_readStatement_128 (fun H locs hB => ?_)
                    have hB : Bx B0 D _ [((κ w).2.2.2, .inr (6, [.int (nI f5357_0), .int f5357_1, .int f5357_2, .ref q5355, .ref f5357_4, .ref f5357_5, .ref f5357_6, .ref f5357_7]))] [(κ w).2.2.2] _ _ := hB
                    refine lv_iconst (v := 1) hx hb dX5_readStatement_131 (by decide) ?_
                    have hF : Fr B0 [10, 11] κ H0 _ := hF.closeN hB (fa_c (fun h9 => by rw [← (hKF _ h9).2, hsu.2]; simp) fa_n)
                    have hT : WT B0 D cs T (kp κr5356 (κ w).2.2.2 1 0) _ := hT.closeK (κ w).2.2.2 1 0 hB (by rw [hsu.1]; decide) (by rw [hsu.1]; decide) (List.mem_of_getElem? (i := 0) rfl) ⟨⟨0, _, rfl, kp_ok (ok_7 (k := ((κr5356 (κ w).2.2.2).1, (κr5356 (κ w).2.2.2).2.1, _, _)) hsu.1 ⟨_, _, _, _, _, _, _, _, rfl, (by omega), (Or.inr ⟨_, rfl, (t2kp hq5355)⟩), (Or.inr ⟨_, rfl⟩), ⟨(t2kp t5357_4).1, by rw [hsu.2]; exact (t2kp t5357_4).2⟩, ⟨(t2kp t5357_5).1, by rw [hsu.2]; exact (t2kp t5357_5).2⟩, ⟨(t2kp t5357_6).1, by rw [hsu.2]; exact (t2kp t5357_6).2⟩, ⟨(t2kp t5357_7).1, by rw [hsu.2]; exact (t2kp t5357_7).2⟩⟩)⟩, trivial⟩
                    have hL : OkL B0 _ := hB.2.2.2.2.2
                    have hsu := t2kp (x := 1) (y := 0) (a := (κ w).2.2.2) hsu
                    refine W.know (fun hg => ?_)
                    rw [hH0] at hg
                    exact en_i hx hb hr hlocks hL rfl (show 3 ≤ 3 by omega) (show ((0 + 2) + 616) ≤ 618 by omega) dX5_readStatement_132 (⟨_, (fun a h1 h2 => (kp_n h2).trans (hKX a h1)), hT, hF, hsu, Or.inr ⟨hmg1, by rw [kp_a], hg.mono (by omega) (by omega)⟩, Or.inr rfl⟩)
                · refine va_getN (D := D) (ci := 6) (v := .ref a5350) (C := RX6) (T := TX6) (N := 8) hx hb hts iX5_readStatement_6 hown hN.1 hP 0 rfl rfl 3 (by decide) (hN.f 44 rfl) (fun _ h9 => h9) rfl dX5_readStatement_89 ?_
                  refine lv_ifnonnull (tgt := 133) hx hb dX5_readStatement_92 (by decide) ?_
                  refine lv_aload_n hx hb dX5_readStatement_133 rfl (lv_at hl 0 rfl) ?_
                  refine lv_bipush (v := (-2)) hx hb dX5_readStatement_134 (by decide) ?_
                  refine lv_aload_n hx hb dX5_readStatement_136 rfl (lv_at hl 0 rfl) ?_
                  refine va_get (D := D) (ci := 5) (v := .int (nI f5332_5)) (C := RX5) (T := TX5) (N := 14) hx hb hts iX5_readStatement_5 hown hN.1 hP 1 rfl rfl 5 (by decide) (hts _ mX5_readStatement_7) (fun _ h9 => h9) rfl dX5_readStatement_137 ?_
                  refine cv_i (As := [.int (-2), .int (nI f5332_5)]) (rest := []) (b := w) ⟨hx, hb, hml, hown, hts⟩ (c_X5_fail hT (w := w) hw (x := (-2)) (y := (nI f5332_5))) (cwV 2 hts gX5_readStatement_X5_fail rfl rfl rfl hdX5_fail_v ⟨Nat.le_of_ble_eq_true rfl, Nat.le_of_ble_eq_true rfl⟩) hN hE hL (rcv6 hN hT hw.1) rfl rfl hl.1 (Nat.le_of_ble_eq_true rfl) dX5_readStatement_140 (Nat.zero_le _) (Nat.zero_le _) (fun r5358 H1 locs hL hqr5358 => ?_)
                  obtain ⟨hT1, hF1, hqr5358⟩ := hqr5358
                  have hP : va_P D vwCl [((κ w).2.2.2, .inr (6, [.int (nI f5333_0), .int f5333_1, .int f5333_2, .ref a5350, .ref f5333_4, .ref f5333_5, .ref f5333_6, .ref f5333_7]))] _ := hF1.hP (hP.sub [0] rfl) (fa_c ⟨by rw [hsu.1]; decide, by rw [hsu.2]; first | decide | (simp; done) | (simp; omega)⟩ fa_n)
                  have hF := hF.tr (hF1.mono (by simp))
                  have hT := hT1
                  obtain rfl := hqr5358
                  refine W.know (fun hg => ?_)
                  rw [hH0] at hg
                  exact en_i hx hb hr hlocks hL rfl (Nat.zero_le _) (Nat.zero_le _) dX5_readStatement_143 (⟨_, (fun _ _ _ => rfl), hT, hF, hsu, Or.inl ⟨rfl, hg⟩, Or.inl rfl⟩)
            · refine lv_aload_n hx hb dX5_readStatement_71 rfl (lv_at hl 0 rfl) ?_
              refine cv_i (As := []) (rest := []) (b := w) ⟨hx, hb, hml, hown, hts⟩ (c_X5_readPatience hT (w := w) hw (by first | omega | decide | assumption) (by first | omega | decide | assumption)) (cwV 0 hts gX5_readStatement_X5_readPatience rfl rfl rfl hdX5_readPatience_v ⟨Nat.le_of_ble_eq_true rfl, Nat.le_of_ble_eq_true rfl⟩) hN hE hL (rcv6 hN hT hw.1) rfl rfl hl.1 (Nat.le_of_ble_eq_true rfl) dX5_readStatement_72 (Nat.zero_le _) (Nat.zero_le _) (fun r5359 H1 locs hL hqr5359 => ?_)
              obtain ⟨hT1, hF1, hqr5359⟩ := hqr5359
              have hF := hF.tr (hF1.mono (by simp))
              have hT := hT1
              rcases hqr5359 with rfl | rfl
              · refine W.know (fun hg => ?_)
                rw [hH0] at hg
                exact en_i hx hb hr hlocks hL rfl (Nat.zero_le _) (Nat.zero_le _) dX5_readStatement_75 (⟨_, (fun _ _ _ => rfl), hT, hF, hsu, Or.inl ⟨rfl, hg⟩, Or.inl rfl⟩)
              · refine W.know (fun hg => ?_)
                rw [hH0] at hg
                exact en_i hx hb hr hlocks hL rfl (Nat.zero_le _) (Nat.zero_le _) dX5_readStatement_75 (⟨_, (fun _ _ _ => rfl), hT, hF, hsu, Or.inl ⟨rfl, hg⟩, Or.inr rfl⟩)
        · refine lv_aload_n hx hb dX5_readStatement_47 rfl (lv_at hl 0 rfl) ?_
          refine cv_i (As := []) (rest := []) (b := w) ⟨hx, hb, hml, hown, hts⟩ (c_X5_readNeed hT (w := w) hw (by first | omega | decide | assumption) (by first | omega | decide | assumption)) (cwV 0 hts gX5_readStatement_X5_readNeed rfl rfl rfl hdX5_readNeed_v ⟨Nat.le_of_ble_eq_true rfl, Nat.le_of_ble_eq_true rfl⟩) hN hE hL (rcv6 hN hT hw.1) rfl rfl hl.1 (Nat.le_of_ble_eq_true rfl) dX5_readStatement_48 (Nat.zero_le _) (Nat.zero_le _) (fun r5360 H1 locs hL hqr5360 => ?_)
          obtain ⟨hT1, hF1, hqr5360⟩ := hqr5360
          have hF := hF.tr (hF1.mono (by simp))
          have hT := hT1
          rcases hqr5360 with rfl | rfl
          · refine W.know (fun hg => ?_)
            rw [hH0] at hg
            exact en_i hx hb hr hlocks hL rfl (Nat.zero_le _) (Nat.zero_le _) dX5_readStatement_51 (⟨_, (fun _ _ _ => rfl), hT, hF, hsu, Or.inl ⟨rfl, hg⟩, Or.inl rfl⟩)
          · refine W.know (fun hg => ?_)
            rw [hH0] at hg
            exact en_i hx hb hr hlocks hL rfl (Nat.zero_le _) (Nat.zero_le _) dX5_readStatement_51 (⟨_, (fun _ _ _ => rfl), hT, hF, hsu, Or.inl ⟨rfl, hg⟩, Or.inr rfl⟩)
    · refine lv_if_eq (tgt := 28) hx hb dX5_readStatement_20 (by decide) (fun c9 => absurd c9 (by decide)) (fun _ => ?_)
      refine lv_aload_n hx hb dX5_readStatement_23 rfl (lv_at hl 0 rfl) ?_
      refine cv_i (As := []) (rest := []) (b := w) ⟨hx, hb, hml, hown, hts⟩ (c_X5_readLink hT (w := w) hw (by first | omega | decide | assumption) (by first | omega | decide | assumption)) (cwV 0 hts gX5_readStatement_X5_readLink rfl rfl rfl hdX5_readLink_v ⟨Nat.le_of_ble_eq_true rfl, Nat.le_of_ble_eq_true rfl⟩) hN hE hL (rcv6 hN hT hw.1) rfl rfl hl.1 (Nat.le_of_ble_eq_true rfl) dX5_readStatement_24 (Nat.zero_le _) (Nat.zero_le _) (fun r5361 H1 locs hL hqr5361 => ?_)
      obtain ⟨hT1, hF1, hqr5361⟩ := hqr5361
      have hF := hF.tr (hF1.mono (by simp))
      have hT := hT1
      rcases hqr5361 with rfl | rfl
      · refine W.know (fun hg => ?_)
        rw [hH0] at hg
        exact en_i hx hb hr hlocks hL rfl (Nat.zero_le _) (Nat.zero_le _) dX5_readStatement_27 (⟨_, (fun _ _ _ => rfl), hT, hF, hsu, Or.inl ⟨rfl, hg⟩, Or.inl rfl⟩)
      · refine W.know (fun hg => ?_)
        rw [hH0] at hg
        exact en_i hx hb hr hlocks hL rfl (Nat.zero_le _) (Nat.zero_le _) dX5_readStatement_27 (⟨_, (fun _ _ _ => rfl), hT, hF, hsu, Or.inl ⟨rfl, hg⟩, Or.inr rfl⟩)
  · refine lv_if_eq (tgt := 14) hx hb dX5_readStatement_6 (by decide) (fun c9 => absurd c9 (by decide)) (fun _ => ?_)
    refine lv_aload_n hx hb dX5_readStatement_9 rfl (lv_at hl 0 rfl) ?_
    refine cv_i (As := []) (rest := []) (b := w) ⟨hx, hb, hml, hown, hts⟩ (c_X5_readClock hT (w := w) hw (by first | omega | decide | assumption) (by first | omega | decide | assumption)) (cwV 0 hts gX5_readStatement_X5_readClock rfl rfl rfl hdX5_readClock_v ⟨Nat.le_of_ble_eq_true rfl, Nat.le_of_ble_eq_true rfl⟩) hN hE hL (rcv6 hN hT hw.1) rfl rfl hl.1 (Nat.le_of_ble_eq_true rfl) dX5_readStatement_10 (Nat.zero_le _) (Nat.zero_le _) (fun r5362 H1 locs hL hqr5362 => ?_)
    obtain ⟨hT1, hF1, hqr5362⟩ := hqr5362
    have hF := hF.tr (hF1.mono (by simp))
    have hT := hT1
    rcases hqr5362 with rfl | rfl
    · refine W.know (fun hg => ?_)
      rw [hH0] at hg
      exact en_i hx hb hr hlocks hL rfl (Nat.zero_le _) (Nat.zero_le _) dX5_readStatement_13 (⟨_, (fun _ _ _ => rfl), hT, hF, hsu, Or.inl ⟨rfl, hg⟩, Or.inl rfl⟩)
    · refine W.know (fun hg => ?_)
      rw [hH0] at hg
      exact en_i hx hb hr hlocks hL rfl (Nat.zero_le _) (Nat.zero_le _) dX5_readStatement_13 (⟨_, (fun _ _ _ => rfl), hT, hF, hsu, Or.inl ⟨rfl, hg⟩, Or.inr rfl⟩)
theorem mX5_read_1 : (.fieldLink RX5 11 "OneBeat$Reader" "text" "[B" : Cond) ∈ wsX5_read := List.mem_of_getElem? (i := 1) (by decide +kernel)
theorem iX5_read_5 : ∀ w ∈ wsX50, w ∈ wsX5_read := fun w h => List.mem_of_mem_drop (List.mem_of_mem_take ((show wsX50 = (wsX5_read.drop 210).take 14 by decide +kernel) ▸ h))
theorem mX5_read_2 : (.methodLink RX5 23 Lib.Math.min.name : Cond) ∈ wsX5_read := List.mem_of_getElem? (i := 2) (by decide +kernel)
theorem mX5_read_3 : (.static Lib.Math.min.name : Cond) ∈ wsX5_read := List.mem_of_getElem? (i := 3) (by decide +kernel)
theorem mX5_read_4 : (.initialized "java/lang/Math" : Cond) ∈ wsX5_read := List.mem_of_getElem? (i := 4) (by decide +kernel)
theorem mX5_read_5 : (.code Lib.Math.min.name Lib.Math.min.code 2 (some .int) : Cond) ∈ wsX5_read := List.mem_of_getElem? (i := 5) (by decide +kernel)
theorem mX5_read_6 : (.methodLink RX5 29 Lib.Math.max.name : Cond) ∈ wsX5_read := List.mem_of_getElem? (i := 6) (by decide +kernel)
theorem mX5_read_7 : (.static Lib.Math.max.name : Cond) ∈ wsX5_read := List.mem_of_getElem? (i := 7) (by decide +kernel)
theorem mX5_read_8 : (.code Lib.Math.max.name Lib.Math.max.code 2 (some .int) : Cond) ∈ wsX5_read := List.mem_of_getElem? (i := 8) (by decide +kernel)
theorem mX5_read_9 : (.fieldLink RX5 32 "OneBeat$Reader" "length" "I" : Cond) ∈ wsX5_read := List.mem_of_getElem? (i := 9) (by decide +kernel)
theorem mX5_read_10 : (.fieldLink RX5 19 "OneBeat$Reader" "stored" "I" : Cond) ∈ wsX5_read := List.mem_of_getElem? (i := 10) (by decide +kernel)
theorem mX5_read_11 : (.fieldLink RX5 35 "OneBeat$Reader" "position" "I" : Cond) ∈ wsX5_read := List.mem_of_getElem? (i := 11) (by decide +kernel)
theorem mX5_read_12 : (.fieldLink RX5 38 "OneBeat$Reader" "codeCount" "I" : Cond) ∈ wsX5_read := List.mem_of_getElem? (i := 12) (by decide +kernel)
theorem mX5_read_13 : (.fieldLink RX5 41 "OneBeat$Reader" "errorStart" "I" : Cond) ∈ wsX5_read := List.mem_of_getElem? (i := 13) (by decide +kernel)
theorem hdX5_takeWord_v : yX5_takeWord.cls = RX5 ∧ yX5_takeWord.cls ≠ "java/lang/invoke/MethodHandle" ∧ yX5_takeWord.cls ≠ "java/lang/invoke/VarHandle" ∧ (parseMethodDescriptor yX5_takeWord.desc).map (fun d => d.parameters.length) = some 1 := by decide +kernel
theorem iX5_read_6 : ∀ w ∈ wsX60, w ∈ wsX5_read := fun w h => List.mem_of_mem_drop (List.mem_of_mem_take ((show wsX60 = (wsX5_read.drop 224).take 8 by decide +kernel) ▸ h))
theorem mX5_read_14 : (.classLink RX5 53 RX6 : Cond) ∈ wsX5_read := List.mem_of_getElem? (i := 14) (by decide +kernel)
theorem mX5_read_15 : (.instantiable RX6 8 : Cond) ∈ wsX5_read := List.mem_of_getElem? (i := 15) (by decide +kernel)
theorem mX5_read_16 : (.initialized RX6 : Cond) ∈ wsX5_read := List.mem_of_getElem? (i := 16) (by decide +kernel)
theorem dfl6 : ∀ j, j < 8 → defaultValue (tyX6 j) = vp_V [.int 0, .int 0, .int 0, .null, .null, .null, .null, .null] j := by decide +kernel
theorem mX5_read_17 : (.fieldLink RX5 59 "OneBeat$Reader" "taken" "I" : Cond) ∈ wsX5_read := List.mem_of_getElem? (i := 17) (by decide +kernel)
theorem mX5_read_96 : (.instanceMethod yX6_init : Cond) ∈ wsX5_read := List.mem_of_getElem? (i := 96) (by decide +kernel)
theorem mX5_read_95 : (.methodLink RX5 62 yX6_init : Cond) ∈ wsX5_read := List.mem_of_getElem? (i := 95) (by decide +kernel)
theorem hdX6_init_o : yX6_init.cls ≠ "java/lang/invoke/MethodHandle" ∧ yX6_init.cls ≠ "java/lang/invoke/VarHandle" ∧ (parseMethodDescriptor yX6_init.desc).map (fun d => d.parameters.length) = some 1 := by decide +kernel
theorem mX5_read_18 : (.fieldLink RX5 65 "OneBeat$Reader" "setup" "LOneBeat$Setup;" : Cond) ∈ wsX5_read := List.mem_of_getElem? (i := 18) (by decide +kernel)
theorem hdX6_fillIn_v : yX6_fillIn.cls = RX6 ∧ yX6_fillIn.cls ≠ "java/lang/invoke/MethodHandle" ∧ yX6_fillIn.cls ≠ "java/lang/invoke/VarHandle" ∧ (parseMethodDescriptor yX6_fillIn.desc).map (fun d => d.parameters.length) = some 0 := by decide +kernel
theorem mX5_read_19 : (.fieldLink RX5 73 "OneBeat$Reader" "kind" "I" : Cond) ∈ wsX5_read := List.mem_of_getElem? (i := 19) (by decide +kernel)
theorem hdX5_readStatement_v : yX5_readStatement.cls = RX5 ∧ yX5_readStatement.cls ≠ "java/lang/invoke/MethodHandle" ∧ yX5_readStatement.cls ≠ "java/lang/invoke/VarHandle" ∧ (parseMethodDescriptor yX5_readStatement.desc).map (fun d => d.parameters.length) = some 0 := by decide +kernel
set_option maxHeartbeats 4000000 in
set_option maxRecDepth 100000 in
theorem c_X5_read {l : Launch} {D : va_G} {cs : Nat → ClassId} {B0 T : Nat} {κ : KM} {H0 : Heap} (hT : WT B0 D cs T κ H0) {w : Nat} (hw : T2 κ w 6 10) {n : Nat} (hn : n ≤ 600) : KC l yX5_read wsX5_read 22 487 11 1332 D cs B0 H0 [.ref w, .int (nI n)] (Qn (fun r H => ∃ κ1, (∀ a, (κ a).1 ≠ 0 → a ≠ w → (κ a).2.1 ≠ 11 → κ1 a = κ a) ∧ (∀ a, (κ a).1 ≠ 0 → (κ1 a).1 = (κ a).1) ∧ T2 κ1 w 6 10 ∧ (κ1 w).2.2.1 = 0 ∧ WT B0 D cs T κ1 H ∧ Fr B0 [10, 11] κ H0 H ∧ Gr H0 H 8 714 ∧ (r = .null ∨ ∃ q, r = .ref q ∧ T2 κ1 q 7 15))) := by
  refine KC.of cX5_read 3 (some (.object "OneBeat$Setup")) (by decide) rfl (Nat.le_of_ble_eq_true rfl) ?_
  intro p e s m below meth c ls hx hb hr hml hown hts hlocks hin hN hE hH0 hl
  have hown : s.vm.findClass RX5 = some m.cls := hown
  have hl : lv_has ls 3 [(0, .ref w), (1, .int (nI n))] := hl
  have hL : OkL B0 [] := OkL.nil
  have hF : Fr B0 [10, 11] κ H0 H0 := Fr.rf
  refine lv_aload_n hx hb dX5_read_0 rfl (lv_at hl 0 rfl) ?_
  refine lv_iconst (v := 0) hx hb dX5_read_1 (by decide) ?_
  refine lv_iload_n hx hb dX5_read_2 rfl (lv_at hl 1 rfl) ?_
  refine lv_aload_n hx hb dX5_read_3 rfl (lv_at hl 0 rfl) ?_
  obtain ⟨hb5363, e5363, hat5363, hk5363⟩ := hT.o6 hw.1
  obtain ⟨f5363_0, f5363_2, f5363_3, f5363_4, f5363_5, f5363_6, f5363_7, f5363_8, f5363_9, f5363_10, f5363_11, f5363_12, f5363_13, rfl, c5363_1, c5363_2, c5363_3, c5363_5, c5363_10, t5363_0, t5363_9, c5363_11, c5363_p2⟩ := hk5363
  have hP : va_P D vwCl [(w, .inr (5, [.ref f5363_0, .int (nI ((κ w).2.2.1)), .int (nI f5363_2), .int (nI f5363_3), .int f5363_4, .int (nI f5363_5), .int f5363_6, .int f5363_7, .int f5363_8, .ref f5363_9, .int (nI f5363_10), f5363_11, .int f5363_12, .int f5363_13]))] _ := va_P.cons hat5363 va_P.nil
  refine va_get (D := D) (ci := 5) (v := .ref f5363_0) (C := RX5) (T := TX5) (N := 14) hx hb hts iX5_read_5 hown hN.1 hP 0 rfl rfl 0 (by decide) (hts _ mX5_read_1) (fun _ h9 => h9) rfl dX5_read_4 ?_
  obtain ⟨hb5364, e5364, hat5364, hk5364⟩ := hT.o16 t5363_0.1
  obtain ⟨g5364, rfl⟩ := hk5364
  have hP : va_P D vwCl [(f5363_0, .inl (cs 1, 600, .inl g5364)), (w, .inr (5, [.ref f5363_0, .int (nI ((κ w).2.2.1)), .int (nI f5363_2), .int (nI f5363_3), .int f5363_4, .int (nI f5363_5), .int f5363_6, .int f5363_7, .int f5363_8, .ref f5363_9, .int (nI f5363_10), f5363_11, .int f5363_12, .int f5363_13]))] _ := va_P.cons hat5364 hP
  refine va_alen (v := 600) hx hb hN.1 hP 0 1 rfl rfl rfl dX5_read_7 ?_
  refine va_mmin hx hb (hml.trans hl.1.symm) hown (hts _ mX5_read_2) (hts _ mX5_read_3) (hts _ mX5_read_4) (hts _ mX5_read_5) (Nat.le_of_ble_eq_true rfl) (Nat.le_of_ble_eq_true rfl) (Nat.zero_le _) (Nat.zero_le _) dX5_read_8 ?_
  obtain ⟨m5365, hm5365, em5365⟩ := nI_min (a := n) (b := 600) (by omega) (by omega)
  refine tp_i (nI m5365) em5365 ?_
  refine va_mmax hx hb (hml.trans hl.1.symm) hown (hts _ mX5_read_6) (hts _ mX5_read_7) (hts _ mX5_read_4) (hts _ mX5_read_8) (Nat.le_of_ble_eq_true rfl) (Nat.le_of_ble_eq_true rfl) (Nat.zero_le _) (Nat.zero_le _) dX5_read_11 ?_
  obtain ⟨m5366, hm5366, em5366⟩ := nI_max (a := 0) (b := m5365) (by omega) (by omega)
  refine tp_i (nI m5366) em5366 ?_
  have hB : Bx B0 D _ [(f5363_0, .inl (cs 1, 600, .inl g5364)), (w, .inr (5, [.ref f5363_0, .int (nI ((κ w).2.2.1)), .int (nI f5363_2), .int (nI f5363_3), .int f5363_4, .int (nI f5363_5), .int f5363_6, .int f5363_7, .int f5363_8, .ref f5363_9, .int (nI f5363_10), f5363_11, .int f5363_12, .int f5363_13]))] [] _ _ := Bx.of (fun a => (κ a).1) hL hP (fa_c hb5364 (fa_c hb5363 fa_n)) (by simp only [List.map_cons, List.map_nil, t5363_0.1, hw.1]; decide)
  refine b_put (D := D) (ci := 5) (v := .int (nI m5366)) (ty := .int) (C := RX5) (T := TX5) (N := 14) hx hb hts iX5_read_5 tyX5 tyX5_ok nmX5 hown hN hB 1 rfl rfl 2 (by decide) (hts _ mX5_read_9) (fun _ h9 => h9) rfl (by decide +kernel) rfl rfl (Nat.le_of_ble_eq_true rfl) (.inl rfl) dX5_read_14 (fun H locs hB => ?_)
  have hB : Bx B0 D _ [(f5363_0, .inl (cs 1, 600, .inl g5364)), (w, .inr (5, [.ref f5363_0, .int (nI ((κ w).2.2.1)), .int (nI m5366), .int (nI f5363_3), .int f5363_4, .int (nI f5363_5), .int f5363_6, .int f5363_7, .int f5363_8, .ref f5363_9, .int (nI f5363_10), f5363_11, .int f5363_12, .int f5363_13]))] [w] _ _ := hB
  refine lv_aload_n hx hb dX5_read_17 rfl (lv_at hl 0 rfl) ?_
  refine lv_iconst (v := 0) hx hb dX5_read_18 (by decide) ?_
  refine tp_i (nI 0) rfl ?_
  refine b_put (D := D) (ci := 5) (v := .int (nI 0)) (ty := .int) (C := RX5) (T := TX5) (N := 14) hx hb hts iX5_read_5 tyX5 tyX5_ok nmX5 hown hN hB 1 rfl rfl 1 (by decide) (hts _ mX5_read_10) (fun _ h9 => h9) rfl (by decide +kernel) rfl rfl (Nat.le_of_ble_eq_true rfl) (.inr ⟨rfl, List.mem_of_getElem? (i := 0) rfl⟩) dX5_read_19 (fun H locs hB => ?_)
  have hB : Bx B0 D _ [(f5363_0, .inl (cs 1, 600, .inl g5364)), (w, .inr (5, [.ref f5363_0, .int (nI 0), .int (nI m5366), .int (nI f5363_3), .int f5363_4, .int (nI f5363_5), .int f5363_6, .int f5363_7, .int f5363_8, .ref f5363_9, .int (nI f5363_10), f5363_11, .int f5363_12, .int f5363_13]))] [w] _ _ := hB
  refine lv_aload_n hx hb dX5_read_22 rfl (lv_at hl 0 rfl) ?_
  refine lv_iconst (v := 0) hx hb dX5_read_23 (by decide) ?_
  refine tp_i (nI 0) rfl ?_
  refine b_put (D := D) (ci := 5) (v := .int (nI 0)) (ty := .int) (C := RX5) (T := TX5) (N := 14) hx hb hts iX5_read_5 tyX5 tyX5_ok nmX5 hown hN hB 1 rfl rfl 3 (by decide) (hts _ mX5_read_11) (fun _ h9 => h9) rfl (by decide +kernel) rfl rfl (Nat.le_of_ble_eq_true rfl) (.inr ⟨rfl, List.mem_of_getElem? (i := 0) rfl⟩) dX5_read_24 (fun H locs hB => ?_)
  have hB : Bx B0 D _ [(f5363_0, .inl (cs 1, 600, .inl g5364)), (w, .inr (5, [.ref f5363_0, .int (nI 0), .int (nI m5366), .int (nI 0), .int f5363_4, .int (nI f5363_5), .int f5363_6, .int f5363_7, .int f5363_8, .ref f5363_9, .int (nI f5363_10), f5363_11, .int f5363_12, .int f5363_13]))] [w] _ _ := hB
  refine lv_aload_n hx hb dX5_read_27 rfl (lv_at hl 0 rfl) ?_
  refine lv_iconst (v := 0) hx hb dX5_read_28 (by decide) ?_
  refine tp_i (nI 0) rfl ?_
  refine b_put (D := D) (ci := 5) (v := .int (nI 0)) (ty := .int) (C := RX5) (T := TX5) (N := 14) hx hb hts iX5_read_5 tyX5 tyX5_ok nmX5 hown hN hB 1 rfl rfl 10 (by decide) (hts _ mX5_read_12) (fun _ h9 => h9) rfl (by decide +kernel) rfl rfl (Nat.le_of_ble_eq_true rfl) (.inr ⟨rfl, List.mem_of_getElem? (i := 0) rfl⟩) dX5_read_29 (fun H locs hB => ?_)
  have hB : Bx B0 D _ [(f5363_0, .inl (cs 1, 600, .inl g5364)), (w, .inr (5, [.ref f5363_0, .int (nI 0), .int (nI m5366), .int (nI 0), .int f5363_4, .int (nI f5363_5), .int f5363_6, .int f5363_7, .int f5363_8, .ref f5363_9, .int (nI 0), f5363_11, .int f5363_12, .int f5363_13]))] [w] _ _ := hB
  refine lv_aload_n hx hb dX5_read_32 rfl (lv_at hl 0 rfl) ?_
  refine lv_iconst (v := (-1)) hx hb dX5_read_33 (by decide) ?_
  refine b_put (D := D) (ci := 5) (v := .int (-1)) (ty := .int) (C := RX5) (T := TX5) (N := 14) hx hb hts iX5_read_5 tyX5 tyX5_ok nmX5 hown hN hB 1 rfl rfl 13 (by decide) (hts _ mX5_read_13) (fun _ h9 => h9) rfl (by decide +kernel) rfl rfl (Nat.le_of_ble_eq_true rfl) (.inr ⟨rfl, List.mem_of_getElem? (i := 0) rfl⟩) dX5_read_34 (fun H locs hB => ?_)
  have hB : Bx B0 D _ [(f5363_0, .inl (cs 1, 600, .inl g5364)), (w, .inr (5, [.ref f5363_0, .int (nI 0), .int (nI m5366), .int (nI 0), .int f5363_4, .int (nI f5363_5), .int f5363_6, .int f5363_7, .int f5363_8, .ref f5363_9, .int (nI 0), f5363_11, .int f5363_12, .int (-1)]))] [w] _ _ := hB
  have hF : Fr B0 [10, 11] κ H0 _ := hF.close hB (fa_c (by simp [hw.2]) fa_n)
  have hT : WT B0 D cs T (kp κ w 0 0) _ := hT.closeK w 0 0 hB (by rw [hw.1]; decide) (by rw [hw.1]; decide) (List.mem_of_getElem? (i := 0) rfl) ⟨⟨1, _, rfl, kp_ok (ok_6 (k := ((κ w).1, (κ w).2.1, _, _)) hw.1 ⟨_, _, _, _, _, _, _, _, _, _, _, _, _, rfl, (by show 0 ≤ 600; omega), (by omega), (by omega), (by omega), (by omega), (t2kp t5363_0), (t2kp t5363_9), (kp_su c5363_11), (Or.inl rfl)⟩)⟩, trivial⟩
  have hL : OkL B0 _ := hB.2.2.2.2.2
  have hP : va_P D vwCl [(f5363_0, .inl (cs 1, 600, .inl g5364)), (w, .inr (5, [.ref f5363_0, .int (nI 0), .int (nI m5366), .int (nI 0), .int f5363_4, .int (nI f5363_5), .int f5363_6, .int f5363_7, .int f5363_8, .ref f5363_9, .int (nI 0), f5363_11, .int f5363_12, .int (-1)]))] _ := hB.1
  obtain ⟨κ5367, hκ5367⟩ : ∃ κ9 : KM, κ9 = (kp κ w 0 0) := ⟨_, rfl⟩
  have hxf5367 : KF κ κ5367 := by rw [hκ5367]; exact KF.kp
  rw [← hκ5367] at hT
  have hKF : KF κ κ5367 := hxf5367
  have hw := (KF.t2 hxf5367 hw (by decide))
  have hKW : ∀ a, (κ a).1 ≠ 0 → a ≠ w → κ5367 a = κ a := fun a _ h9 => by rw [hκ5367, kp_n h9]
  have hw1 : (κ5367 w).2.2.1 = 0 := by rw [hκ5367, kp_a]
  refine lv_aload_n hx hb dX5_read_37 rfl (lv_at hl 0 rfl) ?_
  refine cv_v (As := []) (rest := []) (b := w) ⟨hx, hb, hml, hown, hts⟩ (c_X5_step hT (w := w) hw) (cwV 0 hts gX5_read_X5_step rfl rfl rfl hdX5_step_v ⟨Nat.le_of_ble_eq_true rfl, Nat.le_of_ble_eq_true rfl⟩) hN hE hL (rcv6 hN hT hw.1) rfl rfl hl.1 (Nat.le_of_ble_eq_true rfl) dX5_read_38 (Nat.zero_le _) (Nat.zero_le _) (fun H1 locs hL hqr5368 => ?_)
  obtain ⟨hT1, hF1, hqr5368⟩ := hqr5368
  have hF := hF.tr ((hF1.kf hKF).mono (by simp))
  have hT := hT1
  have f5369 := hqr5368
  refine lv_aload_n hx hb dX5_read_41 rfl (lv_at hl 0 rfl) ?_
  refine va_ldcS hx hb hown (hN.s 1 rfl) dX5_read_42 ?_
  refine cv_i (As := [.ref (cs 101)]) (rest := []) (b := w) ⟨hx, hb, hml, hown, hts⟩ (c_X5_takeWord hT (w := w) hw (i := 1) (by decide)) (cwV 1 hts gX5_read_X5_takeWord rfl rfl rfl hdX5_takeWord_v ⟨Nat.le_of_ble_eq_true rfl, Nat.le_of_ble_eq_true rfl⟩) hN hE hL (rcv6 hN hT hw.1) rfl rfl hl.1 (Nat.le_of_ble_eq_true rfl) dX5_read_44 (Nat.zero_le _) (Nat.zero_le _) (fun r5370 H1 locs hL hqr5370 => ?_)
  obtain ⟨hT1, hF1, hqr5370⟩ := hqr5370
  have hF := hF.tr ((hF1.kf hKF).mono (by simp))
  have hT := hT1
  rcases hqr5370 with rfl | rfl
  · refine lv_if_eq (tgt := 60) hx hb dX5_read_47 (by decide) (fun _ => ?_) (fun c9 => absurd (by decide) c9)
    refine lv_null hx hb dX5_read_60 ?_
    refine W.know (fun hg => ?_)
    rw [hH0] at hg
    exact en_n hx hb hr hlocks (by first | exact Or.inl ⟨_, rfl⟩ | exact Or.inr ⟨_, rfl⟩) hL (Nat.zero_le _) (Nat.zero_le _) (Or.inl rfl) dX5_read_61 (⟨κ5367, (fun a h1 h2 _ => hKW a h1 h2), (fun a h1 => (hKF a h1).1), hw, hw1, hT, hF, hg.mono (by omega) (by omega), Or.inl rfl⟩)
  · refine lv_if_eq (tgt := 60) hx hb dX5_read_47 (by decide) (fun c9 => absurd c9 (by decide)) (fun _ => ?_)
    refine lv_aload_n hx hb dX5_read_50 rfl (lv_at hl 0 rfl) ?_
    refine lv_iconst (v := 1) hx hb dX5_read_51 (by decide) ?_
    refine lv_bipush (v := 8) hx hb dX5_read_52 (by decide) ?_
    refine cv_i (As := [.int 1, .int 8]) (rest := []) (b := w) ⟨hx, hb, hml, hown, hts⟩ (c_X5_takeNumber hT (w := w) hw (x := 1) (y := 8)) (cwV 2 hts gX5_read_X5_takeNumber rfl rfl rfl hdX5_takeNumber_v ⟨Nat.le_of_ble_eq_true rfl, Nat.le_of_ble_eq_true rfl⟩) hN hE hL (rcv6 hN hT hw.1) rfl rfl hl.1 (Nat.le_of_ble_eq_true rfl) dX5_read_54 (Nat.zero_le _) (Nat.zero_le _) (fun r5371 H1 locs hL hqr5371 => ?_)
    obtain ⟨hT1, hF1, hqr5371⟩ := hqr5371
    have hF := hF.tr ((hF1.kf hKF).mono (by simp))
    have hT := hT1
    rcases hqr5371 with rfl | ⟨rfl, v5372, l5373, g5374, f5375⟩
    · refine lv_if_ne (tgt := 62) hx hb dX5_read_57 (by decide) (fun c9 => absurd (by decide) c9) (fun _ => ?_)
      refine lv_null hx hb dX5_read_60 ?_
      refine W.know (fun hg => ?_)
      rw [hH0] at hg
      exact en_n hx hb hr hlocks (by first | exact Or.inl ⟨_, rfl⟩ | exact Or.inr ⟨_, rfl⟩) hL (Nat.zero_le _) (Nat.zero_le _) (Or.inl rfl) dX5_read_61 (⟨κ5367, (fun a h1 h2 _ => hKW a h1 h2), (fun a h1 => (hKF a h1).1), hw, hw1, hT, hF, hg.mono (by omega) (by omega), Or.inl rfl⟩)
    · obtain ⟨n5376, hn5376a, hn5376b, rfl⟩ := rng (x := v5372) (lo := 1) (hi := 8) (by decide) (by decide) l5373 g5374
      refine lv_if_ne (tgt := 62) hx hb dX5_read_57 (by decide) (fun _ => ?_) (fun c9 => absurd c9 (by decide))
      refine lv_aload_n hx hb dX5_read_62 rfl (lv_at hl 0 rfl) ?_
      have hb0 : B0 ≤ _ := hT.b0 hw (by decide)
      have hP : va_P D vwCl [] _ := hT.nil
      have hB : Bx B0 D _ [] [] _ _ := Bx.of (fun a => (κ5367 a).1) hL hP fa_n (by simp only [List.map_cons, List.map_nil, ]; decide)
      refine nw_o (ci := 6) (fs := [.int 0, .int 0, .int 0, .null, .null, .null, .null, .null]) (C := RX6) (T := TX6) (N := 8) hx hb hts iX5_read_6 tyX6 tyX6_ok hown (hts _ mX5_read_14) (hts _ mX5_read_15) (hts _ mX5_read_16) hN rfl dfl6 (show 0 + 1 ≤ 11 by omega) (show 0 + 8 ≤ 1332 by omega) dX5_read_63 (fun q5377 H heq5377 hzq5377 hoq5377 hatq5377 => ?_)
      have hgeq5377 : _ ≤ q5377 := Nat.le_trans hB.2.2.1 (Nat.le_of_eq heq5377.symm)
      have hbq5377 : B0 ≤ q5377 := Nat.le_trans hb0 hgeq5377
      have hfq5377 : (κ5367 q5377).1 = 0 := hT.fresh hgeq5377
      have hB := hB.nw heq5377 hzq5377 hoq5377 hatq5377 hb0
      have hB : Bx B0 D _ [(q5377, .inr (6, [.int 0, .int 0, .int 0, .null, .null, .null, .null, .null]))] [] _ _ := hB
      have hT0 := hT
      refine lv_dup hx hb dX5_read_66 rfl ?_
      refine lv_aload_n hx hb dX5_read_67 rfl (lv_at hl 0 rfl) ?_
      obtain ⟨hb5378, e5378, hat5378, hk5378⟩ := hT.o6 hw.1
      obtain ⟨f5378_0, f5378_2, f5378_3, f5378_4, f5378_5, f5378_6, f5378_7, f5378_8, f5378_9, f5378_10, f5378_11, f5378_12, f5378_13, rfl, c5378_1, c5378_2, c5378_3, c5378_5, c5378_10, t5378_0, t5378_9, c5378_11, c5378_p2⟩ := hk5378
      obtain rfl : f5378_7 = nI n5376 := Value.int.inj (f5375.eq hat5378 rfl (by decide) rfl)
      have hB : Bx B0 D _ [(q5377, .inr (6, [.int 0, .int 0, .int 0, .null, .null, .null, .null, .null])), (w, .inr (5, [.ref f5378_0, .int (nI ((κ5367 w).2.2.1)), .int (nI f5378_2), .int (nI f5378_3), .int f5378_4, .int (nI f5378_5), .int f5378_6, .int (nI n5376), .int f5378_8, .ref f5378_9, .int (nI f5378_10), f5378_11, .int f5378_12, .int f5378_13]))] [] _ _ := hB.more hat5378 hb5378 (fa_c (nw_ne hat5378 hgeq5377) fa_n) fa_n
      refine va_get (D := D) (ci := 5) (v := .int (nI n5376)) (C := RX5) (T := TX5) (N := 14) hx hb hts iX5_read_5 hown hN.1 hB.1 1 rfl rfl 7 (by decide) (hts _ mX5_read_17) (fun _ h9 => h9) rfl dX5_read_68 ?_
      have hwO := hw
      have hKFO := hKF
      have hT : WT B0 D cs T κ5367 _ := hT.close hB trivial
      have hF : Fr B0 [10, 11] κ H0 _ := hF.closeN hB fa_n
      have hL : OkL B0 _ := hB.2.2.2.2.2
      have hP : va_P D vwCl [(q5377, .inr (6, [.int 0, .int 0, .int 0, .null, .null, .null, .null, .null])), (w, .inr (5, [.ref f5378_0, .int (nI ((κ5367 w).2.2.1)), .int (nI f5378_2), .int (nI f5378_3), .int f5378_4, .int (nI f5378_5), .int f5378_6, .int (nI n5376), .int f5378_8, .ref f5378_9, .int (nI f5378_10), f5378_11, .int f5378_12, .int f5378_13]))] _ := hB.1
      refine ci_v (As := [.int (nI n5376)]) (rest := [.ref q5377, .ref w]) (b := q5377) ⟨hx, hb, hml, hown, hts⟩ (c_X6_init hT (w := q5377) hfq5377 hbq5377 (hP 0 _ rfl) (n := n5376) (by first | omega | decide | assumption)) (cwI 1 hts gX5_read_X6_init rfl rfl rfl (hts _ mX5_read_16) (hts _ mX5_read_95) (hts _ mX5_read_96) rfl hdX6_init_o ⟨Nat.le_of_ble_eq_true rfl, Nat.le_of_ble_eq_true rfl⟩) hN hE hL rfl rfl hl.1 (Nat.le_of_ble_eq_true rfl) dX5_read_71 (show 1 + 4 ≤ 11 by omega) (show (0 + 8) + 88 ≤ 1332 by omega) (fun H1 locs hL hqr5379 => ?_)
      obtain ⟨κr5379, hxr5379, hT1, hF1, hqr5379⟩ := hqr5379
      have hF := hF.tr ((hF1.kf hKF).mono (by simp))
      have hT := hT1
      have hKF := hKF.tr hxr5379.f
      have hw := (hxr5379.f.t2 hw (by decide))
      obtain ⟨hq5377, hqr5379⟩ := hqr5379
      have ekq5377 := hqr5379
      have ew9 : κr5379 w = _ := hxr5379 w (by rw [hwO.1]; decide)
      have hKW : ∀ a, (κ a).1 ≠ 0 → a ≠ w → κr5379 a = κ a := fun a h1 h2 => (hxr5379 a (by rw [hKW a h1 h2]; exact h1)).trans (hKW a h1 h2)
      have hw1 : (κr5379 w).2.2.1 = 0 := by rw [ew9]; exact hw1
      have hsf : (κ q5377).1 = 0 := by have h9 := hfq5377; by_cases h8 : (κ q5377).1 = 0; exact h8; rw [(hKFO _ h8).1] at h9; exact h9
      have hq0 : ¬ q5377 = 0 := by have h9 := hT0.lt hwO (by decide); omega
      have hqw : q5377 ≠ w := ne_c hq5377.1 hw.1 (by decide)
      obtain ⟨hb5380, e5380, hat5380, hk5380⟩ := hT.o6 hw.1
      obtain ⟨f5380_0, f5380_2, f5380_3, f5380_4, f5380_5, f5380_6, f5380_7, f5380_8, f5380_9, f5380_10, f5380_11, f5380_12, f5380_13, rfl, c5380_1, c5380_2, c5380_3, c5380_5, c5380_10, t5380_0, t5380_9, c5380_11, c5380_p2⟩ := hk5380
      have hP : va_P D vwCl [(w, .inr (5, [.ref f5380_0, .int (nI ((κr5379 w).2.2.1)), .int (nI f5380_2), .int (nI f5380_3), .int f5380_4, .int (nI f5380_5), .int f5380_6, .int f5380_7, .int f5380_8, .ref f5380_9, .int (nI f5380_10), f5380_11, .int f5380_12, .int f5380_13]))] _ := va_P.cons hat5380 va_P.nil
      have hB : Bx B0 D _ [(w, .inr (5, [.ref f5380_0, .int (nI ((κr5379 w).2.2.1)), .int (nI f5380_2), .int (nI f5380_3), .int f5380_4, .int (nI f5380_5), .int f5380_6, .int f5380_7, .int f5380_8, .ref f5380_9, .int (nI f5380_10), f5380_11, .int f5380_12, .int f5380_13]))] [] _ _ := Bx.of (fun a => (κr5379 a).1) hL hP (fa_c hb5380 fa_n) (by simp only [List.map_cons, List.map_nil, hw.1]; decide)
      refine b_put (D := D) (ci := 5) (v := .ref q5377) (ty := .object "OneBeat$Setup") (C := RX5) (T := TX5) (N := 14) hx hb hts iX5_read_5 tyX5 tyX5_ok nmX5 hown hN hB 0 rfl rfl 11 (by decide) (hts _ mX5_read_18) (fun _ h9 => h9) rfl (by decide +kernel) rfl rfl (Nat.le_of_ble_eq_true rfl) (.inl rfl) dX5_read_74 (fun H locs hB => ?_)
      have hB : Bx B0 D _ [(w, .inr (5, [.ref f5380_0, .int (nI ((κr5379 w).2.2.1)), .int (nI f5380_2), .int (nI f5380_3), .int f5380_4, .int (nI f5380_5), .int f5380_6, .int f5380_7, .int f5380_8, .ref f5380_9, .int (nI f5380_10), .ref q5377, .int f5380_12, .int f5380_13]))] [w] _ _ := hB
      have hqO := hq5377
      have hF : Fr B0 [10, 11] κ H0 _ := hF.closeN hB (fa_c (fun h9 => by rw [← (hKF _ h9).2, hw.2]; simp) fa_n)
      have hT : WT B0 D cs T (kp κr5379 w (κr5379 w).2.2.1 q5377) _ := hT.closeK w (κr5379 w).2.2.1 q5377 hB (by rw [hw.1]; decide) (by rw [hw.1]; decide) (List.mem_of_getElem? (i := 0) rfl) ⟨⟨0, _, rfl, kp_ok (ok_6 (k := ((κr5379 w).1, (κr5379 w).2.1, _, _)) hw.1 ⟨_, _, _, _, _, _, _, _, _, _, _, _, _, rfl, (by show (κr5379 w).2.2.1 ≤ 600; omega), (by omega), (by omega), (by omega), (by omega), (t2kp t5380_0), (t2kp t5380_9), (kp_su (Or.inr ⟨_, rfl, hq5377.1⟩)), (Or.inr rfl)⟩)⟩, trivial⟩
      have hL : OkL B0 _ := hB.2.2.2.2.2
      have hP : va_P D vwCl [(w, .inr (5, [.ref f5380_0, .int (nI ((κr5379 w).2.2.1)), .int (nI f5380_2), .int (nI f5380_3), .int f5380_4, .int (nI f5380_5), .int f5380_6, .int f5380_7, .int f5380_8, .ref f5380_9, .int (nI f5380_10), .ref q5377, .int f5380_12, .int f5380_13]))] _ := hB.1
      obtain ⟨κ5381, hκ5381⟩ : ∃ κ9 : KM, κ9 = (kp κr5379 w (κr5379 w).2.2.1 q5377) := ⟨_, rfl⟩
      have hxf5381 : KF κr5379 κ5381 := by rw [hκ5381]; exact KF.kp
      rw [← hκ5381] at hT
      have hKF := hKF.tr hxf5381
      have hw := (KF.t2 hxf5381 hw (by decide))
      have hKW : ∀ a, (κ a).1 ≠ 0 → a ≠ w → κ5381 a = κ a := fun a h1 h9 => by rw [hκ5381, kp_n h9]; exact hKW a h1 h9
      have hw1 : (κ5381 w).2.2.1 = 0 := by rw [hκ5381, kp_a]; exact hw1
      have ewq : (κ5381 w).2.2.2 = q5377 := by rw [hκ5381, kp_a]
      have hsf : (κ (κ5381 w).2.2.2).1 = 0 := by rw [ewq]; exact hsf
      have hs0 : ¬ (κ5381 w).2.2.2 = 0 := by rw [ewq]; exact hq0
      have hsu : T2 κ5381 (κ5381 w).2.2.2 7 11 := by rw [ewq]; exact hxf5381.t2 hqO (by decide)
      have hp1 : (κ5381 (κ5381 w).2.2.2).2.2.1 ≠ 1 := by rw [ewq, hκ5381, kp_n hqw, ekq5377]; decide
      refine lv_aload_n hx hb dX5_read_77 rfl (lv_at hl 0 rfl) ?_
      refine lv_bipush (v := 59) hx hb dX5_read_78 (by decide) ?_
      refine cv_i (As := [.int 59]) (rest := []) (b := w) ⟨hx, hb, hml, hown, hts⟩ (c_X5_takeMark hT (w := w) hw (x := 59)) (cwV 1 hts gX5_read_X5_takeMark rfl rfl rfl hdX5_takeMark_v ⟨Nat.le_of_ble_eq_true rfl, Nat.le_of_ble_eq_true rfl⟩) hN hE hL (rcv6 hN hT hw.1) rfl rfl hl.1 (Nat.le_of_ble_eq_true rfl) dX5_read_80 (show 5 + 0 ≤ 11 by omega) (show ((0 + 8) + 88) + 0 ≤ 1332 by omega) (fun r5382 H1 locs hL hqr5382 => ?_)
      obtain ⟨hT1, hF1, hqr5382⟩ := hqr5382
      have hF := hF.tr ((hF1.kf hKF).mono (by simp))
      have hT := hT1
      rcases hqr5382 with rfl | rfl
      · refine lv_if_ne (tgt := 88) hx hb dX5_read_83 (by decide) (fun c9 => absurd (by decide) c9) (fun _ => ?_)
        refine lv_null hx hb dX5_read_86 ?_
        refine W.know (fun hg => ?_)
        rw [hH0] at hg
        exact en_n hx hb hr hlocks (by first | exact Or.inl ⟨_, rfl⟩ | exact Or.inr ⟨_, rfl⟩) hL (show 5 ≤ 11 by omega) (show ((0 + 8) + 88) ≤ 1332 by omega) (Or.inl rfl) dX5_read_87 (⟨κ5381, (fun a h1 h2 _ => hKW a h1 h2), (fun a h1 => (hKF a h1).1), hw, hw1, hT, hF, hg.mono (by omega) (by omega), Or.inl rfl⟩)
      · refine lv_if_ne (tgt := 88) hx hb dX5_read_83 (by decide) (fun _ => ?_) (fun c9 => absurd c9 (by decide))
        refine lv_iconst (v := 0) hx hb dX5_read_88 (by decide) ?_
        refine lv_istore_n (lv' := [(2, .int 0), (0, .ref w), (1, .int (nI n))]) hx hb dX5_read_89 rfl hl (by decide) rfl (fun ls hl => ?_)
        refine W.know (fun hg => ?_)
        rw [hH0] at hg
        have hgg : GG9 κ5381 w H0 _ := Or.inl ⟨hp1, hg.mono (by omega) (by omega)⟩
        refine W.tight (k := 8) (n := 714) (by rw [hH0]; exact hgg.all) ?_
        refine lp_m (α := Nat × KM) (nL := 3) (fun a9 => 600 - a9.1) (fun a9 H9 l9 => (a9.1 ≤ 600) ∧ (∀ a, (κ a).1 ≠ 0 → a ≠ w → a9.2 a = κ a) ∧ (KF κ a9.2) ∧ (T2 a9.2 w 6 10) ∧ ((a9.2 w).2.2.1 = 0) ∧ ((κ (a9.2 w).2.2.2).1 = 0) ∧ (¬ (a9.2 w).2.2.2 = 0) ∧ (T2 a9.2 (a9.2 w).2.2.2 7 11) ∧ (GG9 a9.2 w H0 H9) ∧ (WT B0 D cs T a9.2 H9) ∧ (Fr B0 [10, 11] κ H0 H9) ∧ (OkL B0 l9)) (fun a9 => [(2, .int (nI a9.1)), (0, .ref w)]) ?_ (0, κ5381) _ _ _ ⟨(by show (0) ≤ 600; omega), hKW, hKF, hw, hw1, hsf, hs0, hsu, hgg, hT, hF, hL⟩ (lv_sub hl [0, 1] rfl)
        rintro ⟨k, κ9⟩ H locs ls ih5383 ⟨hk, hKW, hKF, hw, hw1, hsf, hs0, hsu, hgg, hT, hF, hL⟩ hl
        have hl : lv_has ls 3 [(2, .int (nI k)), (0, .ref w)] := hl
        have hk : k ≤ 600 := hk
        have hKW : ∀ a, (κ a).1 ≠ 0 → a ≠ w → κ9 a = κ a := hKW
        have hKF : KF κ κ9 := hKF
        have hw : T2 κ9 w 6 10 := hw
        have hw1 : (κ9 w).2.2.1 = 0 := hw1
        have hsf : (κ (κ9 w).2.2.2).1 = 0 := hsf
        have hs0 : ¬ (κ9 w).2.2.2 = 0 := hs0
        have hsu : T2 κ9 (κ9 w).2.2.2 7 11 := hsu
        have hgg : GG9 κ9 w H0 H := hgg
        have hT : WT B0 D cs T κ9 _ := hT
        refine lv_iload_n hx hb dX5_read_90 rfl (lv_at hl 0 rfl) ?_
        refine lv_sipush (v := 600) hx hb dX5_read_91 (by decide) ?_
        refine lv_icmp_ge (tgt := 128) hx hb dX5_read_94 (by decide) (fun c5384 => ?_) (fun c5384 => ?_)
        · have c5384 : 600 ≤ k := (nI_leI (a := 600) (b := k) (by omega) (by omega)).mp c5384
          refine lv_aload_n hx hb dX5_read_128 rfl (lv_at hl 1 rfl) ?_
          obtain ⟨hb5385, e5385, hat5385, hk5385⟩ := hT.o6 hw.1
          obtain ⟨f5385_0, f5385_2, f5385_3, f5385_4, f5385_5, f5385_6, f5385_7, f5385_8, f5385_9, f5385_10, f5385_11, f5385_12, f5385_13, rfl, c5385_1, c5385_2, c5385_3, c5385_5, c5385_10, t5385_0, t5385_9, c5385_11, c5385_p2⟩ := hk5385
          obtain rfl : f5385_11 = .ref (κ9 w).2.2.2 := c5385_p2.resolve_left hs0
          have hP : va_P D vwCl [(w, .inr (5, [.ref f5385_0, .int (nI ((κ9 w).2.2.1)), .int (nI f5385_2), .int (nI f5385_3), .int f5385_4, .int (nI f5385_5), .int f5385_6, .int f5385_7, .int f5385_8, .ref f5385_9, .int (nI f5385_10), .ref (κ9 w).2.2.2, .int f5385_12, .int f5385_13]))] _ := va_P.cons hat5385 va_P.nil
          refine va_get (D := D) (ci := 5) (v := .ref (κ9 w).2.2.2) (C := RX5) (T := TX5) (N := 14) hx hb hts iX5_read_5 hown hN.1 hP 0 rfl rfl 11 (by decide) (hts _ mX5_read_18) (fun _ h9 => h9) rfl dX5_read_129 ?_
          refine cv_v (As := []) (rest := []) (b := (κ9 w).2.2.2) ⟨hx, hb, hml, hown, hts⟩ (KC.grv (c_X6_fillIn hT (w := (κ9 w).2.2.2) hsu)) (cwV 0 hts gX5_read_X6_fillIn rfl rfl rfl hdX6_fillIn_v ⟨Nat.le_of_ble_eq_true rfl, Nat.le_of_ble_eq_true rfl⟩) hN hE hL (rcv7 hN hT hsu.1) rfl rfl hl.1 (Nat.le_of_ble_eq_true rfl) dX5_read_132 (show 8 + 0 ≤ 11 by omega) (show 714 + 0 ≤ 1332 by omega) (fun H1 locs hL hqr5386 => ?_)
          obtain ⟨hgr5386, hqr5386⟩ := hqr5386
          obtain ⟨hT1, hF1⟩ := hqr5386
          have hP : va_P D vwCl [(w, .inr (5, [.ref f5385_0, .int (nI ((κ9 w).2.2.1)), .int (nI f5385_2), .int (nI f5385_3), .int f5385_4, .int (nI f5385_5), .int f5385_6, .int f5385_7, .int f5385_8, .ref f5385_9, .int (nI f5385_10), .ref (κ9 w).2.2.2, .int f5385_12, .int f5385_13]))] _ := hF1.hP (hP.sub [0] rfl) (fa_c ⟨by rw [hw.1]; decide, by rw [hw.2]; first | decide | (simp; done) | (simp; omega)⟩ fa_n)
          have hF := hF.tr ((hF1.kf hKF).mono (by simp))
          have hT := hT1
          have hgg : GG9 κ9 w H0 _ := hgg.gr hgr5386
          refine lv_aload_n hx hb dX5_read_135 rfl (lv_at hl 1 rfl) ?_
          refine va_get (D := D) (ci := 5) (v := .ref (κ9 w).2.2.2) (C := RX5) (T := TX5) (N := 14) hx hb hts iX5_read_5 hown hN.1 hP 0 rfl rfl 11 (by decide) (hts _ mX5_read_18) (fun _ h9 => h9) rfl dX5_read_136 ?_
          refine W.know (fun hg => ?_)
          rw [hH0] at hg
          exact en_n hx hb hr hlocks (by first | exact Or.inl ⟨_, rfl⟩ | exact Or.inr ⟨_, rfl⟩) hL (show 8 ≤ 11 by omega) (show 714 ≤ 1332 by omega) (Or.inr ⟨_, rfl⟩) dX5_read_139 (⟨ro κ9, (fun a h1 h2 h3 => by rw [ro_n (by rw [hKW a h1 h2]; exact h3)]; exact hKW a h1 h2), (fun a h1 => (hKF a h1).1), (by rw [T2, ro_n (by rw [hw.2]; decide)]; exact hw), (by rw [ro_n (by rw [hw.2]; decide)]; exact hw1), hT.re, hF, hgg.all, Or.inr ⟨_, rfl, ro_t hsu⟩⟩)
        · have c5384 : ¬ 600 ≤ k := fun h9 => c5384 ((nI_leI (a := 600) (b := k) (by omega) (by omega)).mpr h9)
          refine lv_aload_n hx hb dX5_read_97 rfl (lv_at hl 1 rfl) ?_
          obtain ⟨hb5387, e5387, hat5387, hk5387⟩ := hT.o6 hw.1
          obtain ⟨f5387_0, f5387_2, f5387_3, f5387_4, f5387_5, f5387_6, f5387_7, f5387_8, f5387_9, f5387_10, f5387_11, f5387_12, f5387_13, rfl, c5387_1, c5387_2, c5387_3, c5387_5, c5387_10, t5387_0, t5387_9, c5387_11, c5387_p2⟩ := hk5387
          obtain rfl : f5387_11 = .ref (κ9 w).2.2.2 := c5387_p2.resolve_left hs0
          have hP : va_P D vwCl [(w, .inr (5, [.ref f5387_0, .int (nI ((κ9 w).2.2.1)), .int (nI f5387_2), .int (nI f5387_3), .int f5387_4, .int (nI f5387_5), .int f5387_6, .int f5387_7, .int f5387_8, .ref f5387_9, .int (nI f5387_10), .ref (κ9 w).2.2.2, .int f5387_12, .int f5387_13]))] _ := va_P.cons hat5387 va_P.nil
          refine va_get (D := D) (ci := 5) (v := .int f5387_4) (C := RX5) (T := TX5) (N := 14) hx hb hts iX5_read_5 hown hN.1 hP 0 rfl rfl 4 (by decide) (hts _ mX5_read_19) (fun _ h9 => h9) rfl dX5_read_98 ?_
          refine lv_if_eq (tgt := 128) hx hb dX5_read_101 (by decide) (fun c5388 => ?_) (fun c5388 => ?_)
          · refine lv_aload_n hx hb dX5_read_128 rfl (lv_at hl 1 rfl) ?_
            refine va_get (D := D) (ci := 5) (v := .ref (κ9 w).2.2.2) (C := RX5) (T := TX5) (N := 14) hx hb hts iX5_read_5 hown hN.1 hP 0 rfl rfl 11 (by decide) (hts _ mX5_read_18) (fun _ h9 => h9) rfl dX5_read_129 ?_
            refine cv_v (As := []) (rest := []) (b := (κ9 w).2.2.2) ⟨hx, hb, hml, hown, hts⟩ (KC.grv (c_X6_fillIn hT (w := (κ9 w).2.2.2) hsu)) (cwV 0 hts gX5_read_X6_fillIn rfl rfl rfl hdX6_fillIn_v ⟨Nat.le_of_ble_eq_true rfl, Nat.le_of_ble_eq_true rfl⟩) hN hE hL (rcv7 hN hT hsu.1) rfl rfl hl.1 (Nat.le_of_ble_eq_true rfl) dX5_read_132 (show 8 + 0 ≤ 11 by omega) (show 714 + 0 ≤ 1332 by omega) (fun H1 locs hL hqr5389 => ?_)
            obtain ⟨hgr5389, hqr5389⟩ := hqr5389
            obtain ⟨hT1, hF1⟩ := hqr5389
            have hP : va_P D vwCl [(w, .inr (5, [.ref f5387_0, .int (nI ((κ9 w).2.2.1)), .int (nI f5387_2), .int (nI f5387_3), .int f5387_4, .int (nI f5387_5), .int f5387_6, .int f5387_7, .int f5387_8, .ref f5387_9, .int (nI f5387_10), .ref (κ9 w).2.2.2, .int f5387_12, .int f5387_13]))] _ := hF1.hP (hP.sub [0] rfl) (fa_c ⟨by rw [hw.1]; decide, by rw [hw.2]; first | decide | (simp; done) | (simp; omega)⟩ fa_n)
            have hF := hF.tr ((hF1.kf hKF).mono (by simp))
            have hT := hT1
            have hgg : GG9 κ9 w H0 _ := hgg.gr hgr5389
            refine lv_aload_n hx hb dX5_read_135 rfl (lv_at hl 1 rfl) ?_
            refine va_get (D := D) (ci := 5) (v := .ref (κ9 w).2.2.2) (C := RX5) (T := TX5) (N := 14) hx hb hts iX5_read_5 hown hN.1 hP 0 rfl rfl 11 (by decide) (hts _ mX5_read_18) (fun _ h9 => h9) rfl dX5_read_136 ?_
            refine W.know (fun hg => ?_)
            rw [hH0] at hg
            exact en_n hx hb hr hlocks (by first | exact Or.inl ⟨_, rfl⟩ | exact Or.inr ⟨_, rfl⟩) hL (show 8 ≤ 11 by omega) (show 714 ≤ 1332 by omega) (Or.inr ⟨_, rfl⟩) dX5_read_139 (⟨ro κ9, (fun a h1 h2 h3 => by rw [ro_n (by rw [hKW a h1 h2]; exact h3)]; exact hKW a h1 h2), (fun a h1 => (hKF a h1).1), (by rw [T2, ro_n (by rw [hw.2]; decide)]; exact hw), (by rw [ro_n (by rw [hw.2]; decide)]; exact hw1), hT.re, hF, hgg.all, Or.inr ⟨_, rfl, ro_t hsu⟩⟩)
          · refine lv_aload_n hx hb dX5_read_104 rfl (lv_at hl 1 rfl) ?_
            refine cv_i (As := []) (rest := []) (b := w) ⟨hx, hb, hml, hown, hts⟩ (c_X5_readStatement hT (w := w) hw (by first | omega | decide | assumption) (by first | omega | decide | assumption)) (cwV 0 hts gX5_read_X5_readStatement rfl rfl rfl hdX5_readStatement_v ⟨Nat.le_of_ble_eq_true rfl, Nat.le_of_ble_eq_true rfl⟩) hN hE hL (rcv6 hN hT hw.1) rfl rfl hl.1 (Nat.le_of_ble_eq_true rfl) dX5_read_105 (show 8 + 3 ≤ 11 by omega) (show 714 + 618 ≤ 1332 by omega) (fun r5390 H1 locs hL hqr5390 => ?_)
            obtain ⟨κr5390, hxr5390, hT1, hF1, hsr5390, hqr5390⟩ := hqr5390
            have hF := hF.tr ((hF1.kf hKF).mono (by simp))
            have hT := hT1
            have hxfr5390 := KSF hxr5390 hsu hsr5390
            have ew9 : κr5390 w = κ9 w := hxr5390 w (by rw [hw.1]; decide) (ne_c hw.1 hsu.1 (by decide))
            have hKW : ∀ a, (κ a).1 ≠ 0 → a ≠ w → κr5390 a = κ a := fun a h1 h2 => (hxr5390 a (by rw [hKW a h1 h2]; exact h1) (fun e9 => h1 (by rw [e9]; exact hsf))).trans (hKW a h1 h2)
            obtain ⟨hgs, hqr5390⟩ := hqr5390
            have hgg : GG9 κr5390 w H0 _ := hgg.step ew9 hgs
            have hsf : (κ (κr5390 w).2.2.2).1 = 0 := by rw [ew9]; exact hsf
            have hs0 : ¬ (κr5390 w).2.2.2 = 0 := by rw [ew9]; exact hs0
            have hsu : T2 κr5390 (κr5390 w).2.2.2 7 11 := by rw [ew9]; exact hsr5390
            have hw1 : (κr5390 w).2.2.1 = 0 := by rw [ew9]; exact hw1
            have hKF := hKF.tr hxfr5390
            have hw := (KF.t2 hxfr5390 hw (by decide))
            rcases hqr5390 with rfl | rfl
            · refine lv_if_eq (tgt := 120) hx hb dX5_read_108 (by decide) (fun _ => ?_) (fun c9 => absurd (by decide) c9)
              refine lv_null hx hb dX5_read_120 ?_
              refine W.know (fun hg => ?_)
              rw [hH0] at hg
              exact en_n hx hb hr hlocks (by first | exact Or.inl ⟨_, rfl⟩ | exact Or.inr ⟨_, rfl⟩) hL (show 11 ≤ 11 by omega) (show (714 + 618) ≤ 1332 by omega) (Or.inl rfl) dX5_read_121 (⟨κr5390, (fun a h1 h2 _ => hKW a h1 h2), (fun a h1 => (hKF a h1).1), hw, hw1, hT, hF, hgg.all, Or.inl rfl⟩)
            · refine lv_if_eq (tgt := 120) hx hb dX5_read_108 (by decide) (fun c9 => absurd c9 (by decide)) (fun _ => ?_)
              refine lv_aload_n hx hb dX5_read_111 rfl (lv_at hl 1 rfl) ?_
              refine lv_bipush (v := 59) hx hb dX5_read_112 (by decide) ?_
              refine cv_i (As := [.int 59]) (rest := []) (b := w) ⟨hx, hb, hml, hown, hts⟩ (KC.gri (c_X5_takeMark hT (w := w) hw (x := 59))) (cwV 1 hts gX5_read_X5_takeMark rfl rfl rfl hdX5_takeMark_v ⟨Nat.le_of_ble_eq_true rfl, Nat.le_of_ble_eq_true rfl⟩) hN hE hL (rcv6 hN hT hw.1) rfl rfl hl.1 (Nat.le_of_ble_eq_true rfl) dX5_read_114 (show 11 + 0 ≤ 11 by omega) (show (714 + 618) + 0 ≤ 1332 by omega) (fun r5391 H1 locs hL hqr5391 => ?_)
              obtain ⟨hgr5391, hqr5391⟩ := hqr5391
              obtain ⟨hT1, hF1, hqr5391⟩ := hqr5391
              have hF := hF.tr ((hF1.kf hKF).mono (by simp))
              have hT := hT1
              have hgg : GG9 κr5390 w H0 _ := hgg.gr hgr5391
              rcases hqr5391 with rfl | rfl
              · refine lv_if_ne (tgt := 122) hx hb dX5_read_117 (by decide) (fun c9 => absurd (by decide) c9) (fun _ => ?_)
                refine lv_null hx hb dX5_read_120 ?_
                refine W.know (fun hg => ?_)
                rw [hH0] at hg
                exact en_n hx hb hr hlocks (by first | exact Or.inl ⟨_, rfl⟩ | exact Or.inr ⟨_, rfl⟩) hL (show 11 ≤ 11 by omega) (show (714 + 618) ≤ 1332 by omega) (Or.inl rfl) dX5_read_121 (⟨κr5390, (fun a h1 h2 _ => hKW a h1 h2), (fun a h1 => (hKF a h1).1), hw, hw1, hT, hF, hgg.all, Or.inl rfl⟩)
              · refine lv_if_ne (tgt := 122) hx hb dX5_read_117 (by decide) (fun _ => ?_) (fun c9 => absurd c9 (by decide))
                refine lv_iinc (v := (nI (k + 1))) (lv' := [(2, .int (nI (k + 1))), (0, .ref w)]) hx hb dX5_read_122 hl (k := 0) rfl (nI_add _ 1) (by decide) rfl (fun ls hl => ?_)
                refine lv_goto (tgt := 90) hx hb dX5_read_125 (by decide) ?_
                refine W.tight (k := 8) (n := 714) (by rw [hH0]; exact hgg.all) ?_
                exact ih5383 ((k + 1), κr5390) _ _ _ (by show 600 - ((k + 1)) < 600 - k; omega) ⟨(by show ((k + 1)) ≤ 600; omega), hKW, hKF, hw, hw1, hsf, hs0, hsu, hgg, hT, hF, hL⟩ (lv_sub hl [0, 1] rfl)
