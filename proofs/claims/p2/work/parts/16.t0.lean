theorem mJ7_copyOf_59c91_7 : (.arrayClass .int : Cond) ∈ wsJ7_copyOf_59c91 := List.mem_of_getElem? (i := 7) (by decide +kernel)
theorem mJ7_copyOf_59c91_8 : (.methodLink RJ7 304 Lib.Math.min.name : Cond) ∈ wsJ7_copyOf_59c91 := List.mem_of_getElem? (i := 8) (by decide +kernel)
theorem mJ7_copyOf_59c91_9 : (.static Lib.Math.min.name : Cond) ∈ wsJ7_copyOf_59c91 := List.mem_of_getElem? (i := 9) (by decide +kernel)
theorem mJ7_copyOf_59c91_10 : (.initialized "java/lang/Math" : Cond) ∈ wsJ7_copyOf_59c91 := List.mem_of_getElem? (i := 10) (by decide +kernel)
theorem mJ7_copyOf_59c91_11 : (.code Lib.Math.min.name Lib.Math.min.code 2 (some .int) : Cond) ∈ wsJ7_copyOf_59c91 := List.mem_of_getElem? (i := 11) (by decide +kernel)
theorem mJ7_copyOf_59c91_12 : (.methodLink RJ7 150 arraycopyName : Cond) ∈ wsJ7_copyOf_59c91 := List.mem_of_getElem? (i := 12) (by decide +kernel)
theorem mJ7_copyOf_59c91_13 : (.native arraycopyName : Cond) ∈ wsJ7_copyOf_59c91 := List.mem_of_getElem? (i := 13) (by decide +kernel)
theorem mJ7_copyOf_59c91_14 : (.static arraycopyName : Cond) ∈ wsJ7_copyOf_59c91 := List.mem_of_getElem? (i := 14) (by decide +kernel)
theorem mJ7_copyOf_59c91_15 : (.initialized "java/lang/System" : Cond) ∈ wsJ7_copyOf_59c91 := List.mem_of_getElem? (i := 15) (by decide +kernel)
theorem mJ7_copyOf_59c91_1 : (.methodLink RJ7 316 ⟨"[I", "clone", "()Ljava/lang/Object;"⟩ : Cond) ∈ wsJ7_copyOf_59c91 := List.mem_of_getElem? (i := 1) (by decide +kernel)
theorem mJ7_copyOf_59c91_2 : (.sameMethod "[I" "java/lang/Object" "clone" "()Ljava/lang/Object;" : Cond) ∈ wsJ7_copyOf_59c91 := List.mem_of_getElem? (i := 2) (by decide +kernel)
theorem mJ7_copyOf_59c91_3 : (.native ⟨"java/lang/Object", "clone", "()Ljava/lang/Object;"⟩ : Cond) ∈ wsJ7_copyOf_59c91 := List.mem_of_getElem? (i := 3) (by decide +kernel)
theorem mJ7_copyOf_59c91_4 : (.instanceMethod ⟨"java/lang/Object", "clone", "()Ljava/lang/Object;"⟩ : Cond) ∈ wsJ7_copyOf_59c91 := List.mem_of_getElem? (i := 4) (by decide +kernel)
theorem mJ7_copyOf_59c91_5 : (.selects "[I" ⟨"[I", "clone", "()Ljava/lang/Object;"⟩ ⟨"java/lang/Object", "clone", "()Ljava/lang/Object;"⟩ : Cond) ∈ wsJ7_copyOf_59c91 := List.mem_of_getElem? (i := 5) (by decide +kernel)
theorem mJ7_copyOf_59c91_6 : (.classLink RJ7 317 "[I" : Cond) ∈ wsJ7_copyOf_59c91 := List.mem_of_getElem? (i := 6) (by decide +kernel)
set_option maxHeartbeats 4000000 in
set_option maxRecDepth 100000 in
theorem c_J7_copyOf_59c91 {l : Launch} {D : va_G} {cs : Nat → ClassId} {B0 : Nat} {H0 : Heap} {v n : Nat} {g : Nat → Int32} (hvb : B0 ≤ v) (hva : va_at D vwCl (v, .inl (cs 0, 600, .inl g)) H0) (hn : n ≤ 600) : KC l yJ7_copyOf_59c91 wsJ7_copyOf_59c91 1 60 1 600 D cs B0 H0 [.ref v, .int (nI n)] (Qr (fun r H => r = H0.size ∧ H.size = r + 1 ∧ (∀ x, x < r → H[x]? = H0[x]?) ∧ ∃ f, va_at D vwCl (r, .inl (cs 0, n, .inl f)) H)) := by
  refine KC.of cJ7_copyOf_59c91 3 (some (.array .int)) (by decide) rfl (Nat.le_of_ble_eq_true rfl) ?_
  intro p e s m below meth c ls hx hb hr hml hown hts hlocks hin hN hE hH0 hl
  have hown : s.vm.findClass RJ7 = some m.cls := hown
  have hl : lv_has ls 3 [(0, .ref v), (1, .int (nI n))] := hl
  have hL : OkL B0 [] := OkL.nil
  have hP : va_P D vwCl [(v, .inl (cs 0, 600, .inl g))] _ := va_P.cons hva va_P.nil
  have hb0 : B0 ≤ H0.size := Nat.le_trans hvb (Nat.le_of_lt hva.lt)
  refine lv_iload_n hx hb dJ7_copyOf_59c91_0 rfl (lv_at hl 1 rfl) ?_
  refine lv_aload_n hx hb dJ7_copyOf_59c91_1 rfl (lv_at hl 0 rfl) ?_
  refine va_alen (v := 600) hx hb hN.1 hP 0 0 rfl rfl rfl dJ7_copyOf_59c91_2 ?_
  refine lv_icmp_ne (tgt := 14) hx hb dJ7_copyOf_59c91_3 (by decide) (fun c4381 => ?_) (fun c4381 => ?_)
  · have c4381 : ¬ n = 600 := fun h9 => c4381 ((nI_eq (a := n) (b := 600) (by omega) (by omega)).mpr h9)
    refine lv_iload_n hx hb dJ7_copyOf_59c91_14 rfl (lv_at hl 1 rfl) ?_
    have hB : Bx B0 D _ [(v, .inl (cs 0, 600, .inl g))] [] _ _ := Bx.of (fun a => a) hL hP (fa_c hvb fa_n) (by simp)
    refine nw_a (atype := .int) (ty := .int) (N' := n) (a0 := (n, .inl (fun _ => 0))) 0 hN rfl hx hb (hts _ mJ7_copyOf_59c91_7) rfl (fun _ => rfl) (nI_pos (n := n) (by omega)) (nI_clamp (n := n) (by omega)) (show n * _ ≤ _ by simp only [componentBytes]; omega) (show 0 + 1 ≤ 1 by omega) (show 0 + n ≤ 600 by omega) dJ7_copyOf_59c91_15 (fun q4382 H heq4382 hzq4382 hoq4382 hatq4382 => ?_)
    have hB := hB.nwm heq4382 hzq4382 hoq4382 hatq4382 hb0
    have hB : Bx B0 D _ [(v, .inl (cs 0, 600, .inl g)), (q4382, .inl (cs 0, n, .inl (fun _ => 0)))] [q4382] _ _ := hB
    refine lv_astore_n (lv' := [(2, .ref q4382), (0, .ref v), (1, .int (nI n))]) hx hb dJ7_copyOf_59c91_17 rfl hl (by decide) rfl (fun ls hl => ?_)
    refine lv_aload_n hx hb dJ7_copyOf_59c91_18 rfl (lv_at hl 1 rfl) ?_
    refine lv_iconst (v := 0) hx hb dJ7_copyOf_59c91_19 (by decide) ?_
    refine lv_aload_n hx hb dJ7_copyOf_59c91_20 rfl (lv_at hl 0 rfl) ?_
    refine lv_iconst (v := 0) hx hb dJ7_copyOf_59c91_21 (by decide) ?_
    refine lv_aload_n hx hb dJ7_copyOf_59c91_22 rfl (lv_at hl 1 rfl) ?_
    refine va_alen (v := 600) hx hb hN.1 hB.1 0 0 rfl rfl rfl dJ7_copyOf_59c91_23 ?_
    refine lv_iload_n hx hb dJ7_copyOf_59c91_24 rfl (lv_at hl 2 rfl) ?_
    refine va_mmin hx hb (hml.trans hl.1.symm) hown (hts _ mJ7_copyOf_59c91_8) (hts _ mJ7_copyOf_59c91_9) (hts _ mJ7_copyOf_59c91_10) (hts _ mJ7_copyOf_59c91_11) (Nat.le_of_ble_eq_true rfl) (Nat.le_of_ble_eq_true rfl) (show 1 ≤ 1 by omega) (show (0 + n) ≤ 600 by omega) dJ7_copyOf_59c91_25 ?_
    obtain ⟨m4383, hm4383, em4383⟩ := nI_min (a := 600) (b := n) (by omega) (by omega)
    refine tp_i (nI m4383) em4383 ?_
    refine b_cpy hx hb (hml.trans hl.1.symm) hown (hts _ mJ7_copyOf_59c91_12) (hts _ mJ7_copyOf_59c91_13) (hts _ mJ7_copyOf_59c91_14) (hts _ mJ7_copyOf_59c91_15) hN hB 0 1 rfl rfl (nI_pos (n := 0) (by omega)) (nI_pos (n := 0) (by omega)) (nI_pos (n := m4383) (by omega)) (by rw [show (0 : Int32).toNatClampNeg = 0 from nI_clamp (n := 0) (by omega), show ((nI m4383) : Int32).toNatClampNeg = m4383 from nI_clamp (n := m4383) (by omega)]; omega) (by rw [show (0 : Int32).toNatClampNeg = 0 from nI_clamp (n := 0) (by omega), show ((nI m4383) : Int32).toNatClampNeg = m4383 from nI_clamp (n := m4383) (by omega)]; omega) (.inr ⟨rfl, List.mem_of_getElem? (i := 0) rfl⟩) (Nat.le_of_ble_eq_true rfl) (Nat.le_of_ble_eq_true rfl) dJ7_copyOf_59c91_28 (fun H locs hB => ?_)
    generalize va_cpy _ _ _ _ _ = g4384 at hB
    have hB : Bx B0 D _ [(v, .inl (cs 0, 600, .inl g)), (q4382, .inl (cs 0, n, .inl g4384))] [q4382] _ _ := hB
    refine lv_aload_n hx hb dJ7_copyOf_59c91_31 rfl (lv_at hl 0 rfl) ?_
    have hL : OkL B0 _ := hB.2.2.2.2.2
    refine W.know (fun hg => ?_)
    rw [hH0] at hg
    exact en_r hx hb hr hlocks (by first | exact Or.inl ⟨_, rfl⟩ | exact Or.inr ⟨_, rfl⟩) hL (show 1 ≤ 1 by omega) (show (0 + n) ≤ 600 by omega) dJ7_copyOf_59c91_32 (⟨heq4382, (by have h1 := hg.2.1; have h2 := (hB.1 1 _ rfl).lt; have h2 : q4382 < _ := h2; omega), (fun x hx9 => hB.2.2.2.1 x (by omega) (by simp; omega)), _, hB.1 1 _ rfl⟩)
  · have c4381 : n = 600 := (nI_eq (a := n) (b := 600) (by omega) (by omega)).mp c4381
    refine lv_aload_n hx hb dJ7_copyOf_59c91_6 rfl (lv_at hl 0 rfl) ?_
    refine nw_cl hx hb (hml.trans hl.1.symm) hown (hts _ mJ7_copyOf_59c91_1) (hts _ mJ7_copyOf_59c91_2) (hts _ mJ7_copyOf_59c91_3) (hts _ mJ7_copyOf_59c91_4) (hts _ mJ7_copyOf_59c91_5) hN (hP 0 _ rfl) (Nat.le_of_ble_eq_true rfl) (Nat.le_of_ble_eq_true rfl) (show 0 + 1 ≤ 1 by omega) (show 0 + 600 ≤ 600 by omega) dJ7_copyOf_59c91_7 (fun q4385 H heq4385 hzq4385 hoq4385 hatq4385 => ?_)
    refine nw_ca hx hb hown (hts _ mJ7_copyOf_59c91_6) hN hatq4385 dJ7_copyOf_59c91_10 ?_
    refine W.know (fun hg => ?_)
    rw [hH0] at hg
    obtain rfl : n = 600 := c4381
    exact en_r hx hb hr hlocks (by first | exact Or.inl ⟨_, rfl⟩ | exact Or.inr ⟨_, rfl⟩) hL (show 1 ≤ 1 by omega) (show (0 + 600) ≤ 600 by omega) dJ7_copyOf_59c91_13 (⟨heq4385, hzq4385, hoq4385, _, hatq4385⟩)
theorem mX0_init_1 : (.methodLink RX0 1 objectInit : Cond) ∈ wsX0_init := List.mem_of_getElem? (i := 1) (by decide +kernel)
theorem mX0_init_2 : (.instanceMethod objectInit : Cond) ∈ wsX0_init := List.mem_of_getElem? (i := 2) (by decide +kernel)
theorem mX0_init_3 : (.code objectInit ⟨#[0xb1]⟩ 1 none : Cond) ∈ wsX0_init := List.mem_of_getElem? (i := 3) (by decide +kernel)
theorem mX0_init_4 : (.arrayClass .int : Cond) ∈ wsX0_init := List.mem_of_getElem? (i := 4) (by decide +kernel)
theorem mX0_init_5 : (.fieldLink RX0 9 "OneBeat$Formula" "stack" "[I" : Cond) ∈ wsX0_init := List.mem_of_getElem? (i := 5) (by decide +kernel)
theorem iX0_init_0 : ∀ w ∈ wsX00, w ∈ wsX0_init := fun w h => List.mem_of_mem_drop (List.mem_of_mem_take ((show wsX00 = (wsX0_init.drop 25).take 2 by decide +kernel) ▸ h))
theorem hdJ7_copyOf_59c91_o : yJ7_copyOf_59c91.cls ≠ "java/lang/invoke/MethodHandle" ∧ yJ7_copyOf_59c91.cls ≠ "java/lang/invoke/VarHandle" ∧ (parseMethodDescriptor yJ7_copyOf_59c91.desc).map (fun d => d.parameters.length) = some 2 := by decide +kernel
theorem mX0_init_6 : (.fieldLink RX0 19 "OneBeat$Formula" "codes" "[I" : Cond) ∈ wsX0_init := List.mem_of_getElem? (i := 6) (by decide +kernel)
set_option maxHeartbeats 4000000 in
set_option maxRecDepth 100000 in
theorem c_X0_init {l : Launch} {D : va_G} {cs : Nat → ClassId} {B0 T : Nat} {κ : KM} {H0 : Heap} (hT : WT B0 D cs T κ H0) {w : Nat} (hfw : (κ w).1 = 0) (hwb : B0 ≤ w) (hwa : va_at D vwCl (w, .inr (0, [.null, .null])) H0) {v n : Nat} (hv : T2 κ v 17 10) (hn : n ≤ 600) : KC l yX0_init wsX0_init 2 82 2 616 D cs B0 H0 [.ref w, .ref v, .int (nI n)] (Qv (fun H => ∃ κ1, KX κ κ1 ∧ WT B0 D cs T κ1 H ∧ Fr B0 [] κ H0 H ∧ T2 κ1 w 1 15)) := by
  refine KC.of cX0_init 3 none (by decide) rfl (Nat.le_of_ble_eq_true rfl) ?_
  intro p e s m below meth c ls hx hb hr hml hown hts hlocks hin hN hE hH0 hl
  have hown : s.vm.findClass RX0 = some m.cls := hown
  have hl : lv_has ls 3 [(0, .ref w), (1, .ref v), (2, .int (nI n))] := hl
  have hL : OkL B0 [] := OkL.nil
  have hF : Fr B0 [] κ H0 H0 := Fr.rf
  have hP : va_P D vwCl [(w, .inr (0, [.null, .null]))] _ := va_P.cons hwa va_P.nil
  have hb0 : B0 ≤ H0.size := Nat.le_trans hwb (Nat.le_of_lt hwa.lt)
  refine lv_aload_n hx hb dX0_init_0 rfl (lv_at hl 0 rfl) ?_
  refine W.objInit hx hb hown (hts _ mX0_init_1) (hts _ mX0_init_2) (hts _ mX0_init_3) rfl (by rw [hml]; exact hl.1) rfl dX0_init_1 (Nat.le_of_ble_eq_true rfl) (Nat.le_of_ble_eq_true rfl) ?_
  refine W.eq (g2 := F0 m 4 ls []) rfl ?_
  refine lv_aload_n hx hb dX0_init_4 rfl (lv_at hl 0 rfl) ?_
  refine lv_bipush (v := 16) hx hb dX0_init_5 (by decide) ?_
  have hB : Bx B0 D _ [(w, .inr (0, [.null, .null]))] [] _ _ := Bx.of (fun a => (κ a).1) hL hP (fa_c hwb fa_n) (by simp only [List.map_cons, List.map_nil, hfw]; decide)
  refine nw_a (atype := .int) (ty := .int) (N' := 16) (a0 := (16, .inl (fun _ => 0))) 0 hN rfl hx hb (hts _ mX0_init_4) rfl (fun _ => rfl) (nI_pos (n := 16) (by omega)) (nI_clamp (n := 16) (by omega)) (show 16 * _ ≤ _ by simp only [componentBytes]; omega) (show 0 + 1 ≤ 2 by omega) (show 0 + 16 ≤ 616 by omega) dX0_init_7 (fun q4386 H heq4386 hzq4386 hoq4386 hatq4386 => ?_)
  have hgeq4386 : _ ≤ q4386 := Nat.le_trans hB.2.2.1 (Nat.le_of_eq heq4386.symm)
  have hbq4386 : B0 ≤ q4386 := Nat.le_trans hb0 hgeq4386
  have hfq4386 : (κ q4386).1 = 0 := hT.fresh hgeq4386
  have hB := hB.nwm heq4386 hzq4386 hoq4386 hatq4386 hb0
  have hB : Bx B0 D _ [(w, .inr (0, [.null, .null])), (q4386, .inl (cs 0, 16, .inl (fun _ => 0)))] [q4386] _ _ := hB
  refine b_putF (D := D) (ci := 0) (v := .ref q4386) (ty := .array .int) (C := RX0) (T := TX0) (N := 2) hx hb hts iX0_init_0 tyX0 tyX0_ok nmX0 hown hN hB 0 rfl rfl 1 (by decide) (hts _ mX0_init_5) (fun _ h9 => h9) rfl hin rfl (by decide +kernel) rfl rfl (Nat.le_of_ble_eq_true rfl) (.inl rfl) dX0_init_9 (fun H locs hB => ?_)
  have hB : Bx B0 D _ [(w, .inr (0, [.null, .ref q4386])), (q4386, .inl (cs 0, 16, .inl (fun _ => 0)))] [w, q4386] _ _ := hB
  refine lv_aload_n hx hb dX0_init_12 rfl (lv_at hl 0 rfl) ?_
  refine lv_aload_n hx hb dX0_init_13 rfl (lv_at hl 1 rfl) ?_
  refine lv_iload_n hx hb dX0_init_14 rfl (lv_at hl 2 rfl) ?_
  refine lv_if_ge (tgt := 22) hx hb dX0_init_15 (by decide) (fun c4387 => ?_) (fun c4387 => ?_)
  · have c4387 : 0 ≤ n := (nI_leI (a := 0) (b := n) (by omega) (by omega)).mp c4387
    refine lv_iload_n hx hb dX0_init_22 rfl (lv_at hl 2 rfl) ?_
    obtain ⟨hb4388, e4388, hat4388, hk4388⟩ := hT.o17 hv.1
    obtain ⟨g4388, rfl⟩ := hk4388
    have hB : Bx B0 D _ [(w, .inr (0, [.null, .ref q4386])), (q4386, .inl (cs 0, 16, .inl (fun _ => 0))), (v, .inl (cs 0, 600, .inl g4388))] [w, q4386] _ _ := hB.more hat4388 hb4388 (fa_c (ne_c hfw hv.1 (by decide))  (fa_c (nw_ne hat4388 hgeq4386) fa_n)) (fa_c (ne_c hfw hv.1 (by decide))  (fa_c (nw_ne hat4388 hgeq4386) fa_n))
    have hL : OkL B0 _ := hB.2.2.2.2.2
    refine cs_r (As := [.ref v, .int (nI n)]) (rest := [.ref w]) ⟨hx, hb, hml, hown, hts⟩ (c_J7_copyOf_59c91 (v := v) (n := n) hb4388 (hB.1 2 _ rfl) (by omega)) (va_cwS 2 hts gX0_init_J7_copyOf_59c91 rfl rfl rfl hdJ7_copyOf_59c91_o ⟨Nat.le_of_ble_eq_true rfl, Nat.le_of_ble_eq_true rfl⟩) hN hE hL rfl rfl hl.1 (Nat.le_of_ble_eq_true rfl) dX0_init_23 (show 1 + 1 ≤ 2 by omega) (show (0 + 16) + 600 ≤ 616 by omega) (fun q4389 H1 locs hL hqq4389 => ?_)
    obtain ⟨heq4389, hzq4389, hoq4389, gq4389, hatq4389⟩ := hqq4389
    have hB := hB.lc hL
    have hgeq4389 : _ ≤ q4389 := Nat.le_trans hB.2.2.1 (Nat.le_of_eq heq4389.symm)
    have hbq4389 : B0 ≤ q4389 := Nat.le_trans hb0 hgeq4389
    have hfq4389 : (κ q4389).1 = 0 := hT.fresh hgeq4389
    have hB := hB.nwm heq4389 hzq4389 hoq4389 hatq4389 hb0
    have hB : Bx B0 D _ [(w, .inr (0, [.null, .ref q4386])), (q4386, .inl (cs 0, 16, .inl (fun _ => 0))), (v, .inl (cs 0, 600, .inl g4388)), (q4389, .inl (cs 0, n, .inl gq4389))] [q4389, w, q4386] _ _ := hB
    refine b_putF (D := D) (ci := 0) (v := .ref q4389) (ty := .array .int) (C := RX0) (T := TX0) (N := 2) hx hb hts iX0_init_0 tyX0 tyX0_ok nmX0 hown hN hB 0 rfl rfl 0 (by decide) (hts _ mX0_init_6) (fun _ h9 => h9) rfl hin rfl (by decide +kernel) rfl rfl (Nat.le_of_ble_eq_true rfl) (.inr ⟨rfl, List.mem_of_getElem? (i := 1) rfl⟩) dX0_init_26 (fun H locs hB => ?_)
    have hB : Bx B0 D _ [(w, .inr (0, [.ref q4389, .ref q4386])), (q4386, .inl (cs 0, 16, .inl (fun _ => 0))), (v, .inl (cs 0, 600, .inl g4388)), (q4389, .inl (cs 0, n, .inl gq4389))] [q4389, w, q4386] _ _ := hB
    obtain ⟨κ4390, hκ4390⟩ : ∃ κ9 : KM, κ9 = (ku (ku (ku κ w (1, 15, 0, 0)) q4386 (22, 16, 0, 0)) q4389 (21, 15, 0, 0)) := ⟨_, rfl⟩
    have hx4390 : KX κ κ4390 := by rw [hκ4390]; exact (((KX.ku hfw).tr (KX.ku (by rw [ku_n (fun e9 => absurd (hB.2.1.1 1 0 _ _ rfl rfl e9) (by decide))]; exact hfq4386))).tr (KX.ku (by rw [ku_n (fun e9 => absurd (hB.2.1.1 3 1 _ _ rfl rfl e9) (by decide)), ku_n (fun e9 => absurd (hB.2.1.1 3 0 _ _ rfl rfl e9) (by decide))]; exact hfq4389)))
    have ew : κ4390 w = (1, 15, 0, 0) := by rw [hκ4390, ku_n (fun e9 => absurd (hB.2.1.1 0 3 _ _ rfl rfl e9) (by decide)), ku_n (fun e9 => absurd (hB.2.1.1 0 1 _ _ rfl rfl e9) (by decide)), ku_a]
    have hw : T2 κ4390 w 1 15 := ⟨by rw [ew], by rw [ew]⟩
    have eq4386 : κ4390 q4386 = (22, 16, 0, 0) := by rw [hκ4390, ku_n (fun e9 => absurd (hB.2.1.1 1 3 _ _ rfl rfl e9) (by decide)), ku_a]
    have hq4386 : T2 κ4390 q4386 22 16 := ⟨by rw [eq4386], by rw [eq4386]⟩
    have eq4389 : κ4390 q4389 = (21, 15, 0, 0) := by rw [hκ4390, ku_a]
    have hq4389 : T2 κ4390 q4389 21 15 := ⟨by rw [eq4389], by rw [eq4389]⟩
    have hx9 := hx4390
    have hT : WT B0 D cs T κ4390 _ := hT.closeN hB hx4390 (fun a9 h9 => by rw [hκ4390, ku_n (fun e9 => h9 (by rw [e9]; exact List.mem_of_getElem? (i := 0) rfl)), ku_n (fun e9 => h9 (by rw [e9]; exact List.mem_of_getElem? (i := 2) rfl)), ku_n (fun e9 => h9 (by rw [e9]; exact List.mem_of_getElem? (i := 1) rfl))]) ⟨⟨3, _, rfl, ok_21 hq4389.1 ⟨_, _, rfl, (by omega)⟩⟩, ⟨⟨0, _, rfl, ok_1 hw.1 ⟨_, _, rfl, hq4389, hq4386⟩⟩, ⟨⟨1, _, rfl, ok_22 hq4386.1 ⟨_, rfl⟩⟩, trivial⟩⟩⟩
    have hF : Fr B0 [] κ H0 _ := hF.closeN hB (fa_c (fun h9 => absurd hfq4389 h9) (fa_c (fun h9 => absurd hfw h9) (fa_c (fun h9 => absurd hfq4386 h9) fa_n)))
    have hL : OkL B0 _ := hB.2.2.2.2.2
    have hKF : KF κ κ4390 := hx4390.f
    have hKX : KX κ κ4390 := hx4390
    have hv := (hx4390.f.t2 hv (by decide))
    have hP : va_P D vwCl [(w, .inr (0, [.ref q4389, .ref q4386])), (q4386, .inl (cs 0, 16, .inl (fun _ => 0))), (v, .inl (cs 0, 600, .inl g4388)), (q4389, .inl (cs 0, n, .inl gq4389))] _ := hB.1
    exact en_v hx hb hr hlocks hL (show 2 ≤ 2 by omega) (show ((0 + 16) + 600) ≤ 616 by omega) dX0_init_29 (⟨_, hKX, hT, hF, hw⟩)
  · have c4387 : ¬ 0 ≤ n := fun h9 => c4387 ((nI_leI (a := 0) (b := n) (by omega) (by omega)).mpr h9)
    refine lv_iconst (v := 0) hx hb dX0_init_18 (by decide) ?_
    refine lv_goto (tgt := 23) hx hb dX0_init_19 (by decide) ?_
    obtain ⟨hb4391, e4391, hat4391, hk4391⟩ := hT.o17 hv.1
    obtain ⟨g4391, rfl⟩ := hk4391
    have hB : Bx B0 D _ [(w, .inr (0, [.null, .ref q4386])), (q4386, .inl (cs 0, 16, .inl (fun _ => 0))), (v, .inl (cs 0, 600, .inl g4391))] [w, q4386] _ _ := hB.more hat4391 hb4391 (fa_c (ne_c hfw hv.1 (by decide))  (fa_c (nw_ne hat4391 hgeq4386) fa_n)) (fa_c (ne_c hfw hv.1 (by decide))  (fa_c (nw_ne hat4391 hgeq4386) fa_n))
    have hL : OkL B0 _ := hB.2.2.2.2.2
    refine cs_r (As := [.ref v, .int 0]) (rest := [.ref w]) ⟨hx, hb, hml, hown, hts⟩ (c_J7_copyOf_59c91 (v := v) (n := 0) hb4391 (hB.1 2 _ rfl) (by omega)) (va_cwS 2 hts gX0_init_J7_copyOf_59c91 rfl rfl rfl hdJ7_copyOf_59c91_o ⟨Nat.le_of_ble_eq_true rfl, Nat.le_of_ble_eq_true rfl⟩) hN hE hL rfl rfl hl.1 (Nat.le_of_ble_eq_true rfl) dX0_init_23 (show 1 + 1 ≤ 2 by omega) (show (0 + 16) + 600 ≤ 616 by omega) (fun q4392 H1 locs hL hqq4392 => ?_)
    obtain ⟨heq4392, hzq4392, hoq4392, gq4392, hatq4392⟩ := hqq4392
    have hB := hB.lc hL
    have hgeq4392 : _ ≤ q4392 := Nat.le_trans hB.2.2.1 (Nat.le_of_eq heq4392.symm)
    have hbq4392 : B0 ≤ q4392 := Nat.le_trans hb0 hgeq4392
    have hfq4392 : (κ q4392).1 = 0 := hT.fresh hgeq4392
    have hB := hB.nwm heq4392 hzq4392 hoq4392 hatq4392 hb0
    have hB : Bx B0 D _ [(w, .inr (0, [.null, .ref q4386])), (q4386, .inl (cs 0, 16, .inl (fun _ => 0))), (v, .inl (cs 0, 600, .inl g4391)), (q4392, .inl (cs 0, 0, .inl gq4392))] [q4392, w, q4386] _ _ := hB
    refine b_putF (D := D) (ci := 0) (v := .ref q4392) (ty := .array .int) (C := RX0) (T := TX0) (N := 2) hx hb hts iX0_init_0 tyX0 tyX0_ok nmX0 hown hN hB 0 rfl rfl 0 (by decide) (hts _ mX0_init_6) (fun _ h9 => h9) rfl hin rfl (by decide +kernel) rfl rfl (Nat.le_of_ble_eq_true rfl) (.inr ⟨rfl, List.mem_of_getElem? (i := 1) rfl⟩) dX0_init_26 (fun H locs hB => ?_)
    have hB : Bx B0 D _ [(w, .inr (0, [.ref q4392, .ref q4386])), (q4386, .inl (cs 0, 16, .inl (fun _ => 0))), (v, .inl (cs 0, 600, .inl g4391)), (q4392, .inl (cs 0, 0, .inl gq4392))] [q4392, w, q4386] _ _ := hB
    obtain ⟨κ4393, hκ4393⟩ : ∃ κ9 : KM, κ9 = (ku (ku (ku κ w (1, 15, 0, 0)) q4386 (22, 16, 0, 0)) q4392 (21, 15, 0, 0)) := ⟨_, rfl⟩
    have hx4393 : KX κ κ4393 := by rw [hκ4393]; exact (((KX.ku hfw).tr (KX.ku (by rw [ku_n (fun e9 => absurd (hB.2.1.1 1 0 _ _ rfl rfl e9) (by decide))]; exact hfq4386))).tr (KX.ku (by rw [ku_n (fun e9 => absurd (hB.2.1.1 3 1 _ _ rfl rfl e9) (by decide)), ku_n (fun e9 => absurd (hB.2.1.1 3 0 _ _ rfl rfl e9) (by decide))]; exact hfq4392)))
    have ew : κ4393 w = (1, 15, 0, 0) := by rw [hκ4393, ku_n (fun e9 => absurd (hB.2.1.1 0 3 _ _ rfl rfl e9) (by decide)), ku_n (fun e9 => absurd (hB.2.1.1 0 1 _ _ rfl rfl e9) (by decide)), ku_a]
    have hw : T2 κ4393 w 1 15 := ⟨by rw [ew], by rw [ew]⟩
    have eq4386 : κ4393 q4386 = (22, 16, 0, 0) := by rw [hκ4393, ku_n (fun e9 => absurd (hB.2.1.1 1 3 _ _ rfl rfl e9) (by decide)), ku_a]
    have hq4386 : T2 κ4393 q4386 22 16 := ⟨by rw [eq4386], by rw [eq4386]⟩
    have eq4392 : κ4393 q4392 = (21, 15, 0, 0) := by rw [hκ4393, ku_a]
    have hq4392 : T2 κ4393 q4392 21 15 := ⟨by rw [eq4392], by rw [eq4392]⟩
    have hx9 := hx4393
    have hT : WT B0 D cs T κ4393 _ := hT.closeN hB hx4393 (fun a9 h9 => by rw [hκ4393, ku_n (fun e9 => h9 (by rw [e9]; exact List.mem_of_getElem? (i := 0) rfl)), ku_n (fun e9 => h9 (by rw [e9]; exact List.mem_of_getElem? (i := 2) rfl)), ku_n (fun e9 => h9 (by rw [e9]; exact List.mem_of_getElem? (i := 1) rfl))]) ⟨⟨3, _, rfl, ok_21 hq4392.1 ⟨_, _, rfl, (by omega)⟩⟩, ⟨⟨0, _, rfl, ok_1 hw.1 ⟨_, _, rfl, hq4392, hq4386⟩⟩, ⟨⟨1, _, rfl, ok_22 hq4386.1 ⟨_, rfl⟩⟩, trivial⟩⟩⟩
    have hF : Fr B0 [] κ H0 _ := hF.closeN hB (fa_c (fun h9 => absurd hfq4392 h9) (fa_c (fun h9 => absurd hfw h9) (fa_c (fun h9 => absurd hfq4386 h9) fa_n)))
    have hL : OkL B0 _ := hB.2.2.2.2.2
    have hKF : KF κ κ4393 := hx4393.f
    have hKX : KX κ κ4393 := hx4393
    have hv := (hx4393.f.t2 hv (by decide))
    have hP : va_P D vwCl [(w, .inr (0, [.ref q4392, .ref q4386])), (q4386, .inl (cs 0, 16, .inl (fun _ => 0))), (v, .inl (cs 0, 600, .inl g4391)), (q4392, .inl (cs 0, 0, .inl gq4392))] _ := hB.1
    exact en_v hx hb hr hlocks hL (show 2 ≤ 2 by omega) (show ((0 + 16) + 600) ≤ 616 by omega) dX0_init_29 (⟨_, hKX, hT, hF, hw⟩)
theorem mX6_init_1 : (.methodLink RX6 1 objectInit : Cond) ∈ wsX6_init := List.mem_of_getElem? (i := 1) (by decide +kernel)
theorem mX6_init_2 : (.instanceMethod objectInit : Cond) ∈ wsX6_init := List.mem_of_getElem? (i := 2) (by decide +kernel)
theorem mX6_init_3 : (.code objectInit ⟨#[0xb1]⟩ 1 none : Cond) ∈ wsX6_init := List.mem_of_getElem? (i := 3) (by decide +kernel)
theorem mX6_init_4 : (.arrayClass .boolean : Cond) ∈ wsX6_init := List.mem_of_getElem? (i := 4) (by decide +kernel)
theorem mX6_init_5 : (.fieldLink RX6 9 "OneBeat$Setup" "isClockTold" "[Z" : Cond) ∈ wsX6_init := List.mem_of_getElem? (i := 5) (by decide +kernel)
theorem iX6_init_6 : ∀ w ∈ wsX60, w ∈ wsX6_init := fun w h => List.mem_of_mem_drop (List.mem_of_mem_take ((show wsX60 = (wsX6_init.drop 11).take 8 by decide +kernel) ▸ h))
theorem mX6_init_6 : (.arrayClass .int : Cond) ∈ wsX6_init := List.mem_of_getElem? (i := 6) (by decide +kernel)
theorem mX6_init_7 : (.fieldLink RX6 13 "OneBeat$Setup" "offset" "[I" : Cond) ∈ wsX6_init := List.mem_of_getElem? (i := 7) (by decide +kernel)
theorem mX6_init_8 : (.fieldLink RX6 17 "OneBeat$Setup" "drift" "[I" : Cond) ∈ wsX6_init := List.mem_of_getElem? (i := 8) (by decide +kernel)
theorem mX6_init_9 : (.fieldLink RX6 20 "OneBeat$Setup" "delay" "[I" : Cond) ∈ wsX6_init := List.mem_of_getElem? (i := 9) (by decide +kernel)
theorem mX6_init_10 : (.fieldLink RX6 23 "OneBeat$Setup" "players" "I" : Cond) ∈ wsX6_init := List.mem_of_getElem? (i := 10) (by decide +kernel)
set_option maxHeartbeats 4000000 in
set_option maxRecDepth 100000 in
theorem c_X6_init {l : Launch} {D : va_G} {cs : Nat → ClassId} {B0 T : Nat} {κ : KM} {H0 : Heap} (hT : WT B0 D cs T κ H0) {w : Nat} (hfw : (κ w).1 = 0) (hwb : B0 ≤ w) (hwa : va_at D vwCl (w, .inr (6, [.int 0, .int 0, .int 0, .null, .null, .null, .null, .null])) H0) {n : Nat} (hn : n ≤ 8) : KC l yX6_init wsX6_init 1 20 4 88 D cs B0 H0 [.ref w, .int (nI n)] (Qv (fun H => ∃ κ1, KX κ κ1 ∧ WT B0 D cs T κ1 H ∧ Fr B0 [] κ H0 H ∧ T2 κ1 w 7 11 ∧ κ1 w = (7, 11, 0, 0))) := by
  refine KC.of cX6_init 2 none (by decide) rfl (Nat.le_of_ble_eq_true rfl) ?_
  intro p e s m below meth c ls hx hb hr hml hown hts hlocks hin hN hE hH0 hl
  have hown : s.vm.findClass RX6 = some m.cls := hown
  have hl : lv_has ls 2 [(0, .ref w), (1, .int (nI n))] := hl
  have hL : OkL B0 [] := OkL.nil
  have hF : Fr B0 [] κ H0 H0 := Fr.rf
  have hP : va_P D vwCl [(w, .inr (6, [.int 0, .int 0, .int 0, .null, .null, .null, .null, .null]))] _ := va_P.cons hwa va_P.nil
  have hb0 : B0 ≤ H0.size := Nat.le_trans hwb (Nat.le_of_lt hwa.lt)
  refine lv_aload_n hx hb dX6_init_0 rfl (lv_at hl 0 rfl) ?_
  refine W.objInit hx hb hown (hts _ mX6_init_1) (hts _ mX6_init_2) (hts _ mX6_init_3) rfl (by rw [hml]; exact hl.1) rfl dX6_init_1 (Nat.le_of_ble_eq_true rfl) (Nat.le_of_ble_eq_true rfl) ?_
  refine W.eq (g2 := F0 m 4 ls []) rfl ?_
  refine lv_aload_n hx hb dX6_init_4 rfl (lv_at hl 0 rfl) ?_
  refine lv_bipush (v := 8) hx hb dX6_init_5 (by decide) ?_
  have hB : Bx B0 D _ [(w, .inr (6, [.int 0, .int 0, .int 0, .null, .null, .null, .null, .null]))] [] _ _ := Bx.of (fun a => (κ a).1) hL hP (fa_c hwb fa_n) (by simp only [List.map_cons, List.map_nil, hfw]; decide)
  refine nw_a (atype := .boolean) (ty := .boolean) (N' := 8) (a0 := (8, .inl (fun _ => 0))) 2 hN rfl hx hb (hts _ mX6_init_4) rfl (fun _ => rfl) (nI_pos (n := 8) (by omega)) (nI_clamp (n := 8) (by omega)) (show 8 * _ ≤ _ by simp only [componentBytes]; omega) (show 0 + 1 ≤ 4 by omega) (show 0 + 8 ≤ 88 by omega) dX6_init_7 (fun q4394 H heq4394 hzq4394 hoq4394 hatq4394 => ?_)
  have hgeq4394 : _ ≤ q4394 := Nat.le_trans hB.2.2.1 (Nat.le_of_eq heq4394.symm)
  have hbq4394 : B0 ≤ q4394 := Nat.le_trans hb0 hgeq4394
  have hfq4394 : (κ q4394).1 = 0 := hT.fresh hgeq4394
  have hB := hB.nwm heq4394 hzq4394 hoq4394 hatq4394 hb0
  have hB : Bx B0 D _ [(w, .inr (6, [.int 0, .int 0, .int 0, .null, .null, .null, .null, .null])), (q4394, .inl (cs 2, 8, .inl (fun _ => 0)))] [q4394] _ _ := hB
  refine b_putF (D := D) (ci := 6) (v := .ref q4394) (ty := .array .boolean) (C := RX6) (T := TX6) (N := 8) hx hb hts iX6_init_6 tyX6 tyX6_ok nmX6 hown hN hB 0 rfl rfl 4 (by decide) (hts _ mX6_init_5) (fun _ h9 => h9) rfl hin rfl (by decide +kernel) rfl rfl (Nat.le_of_ble_eq_true rfl) (.inl rfl) dX6_init_9 (fun H locs hB => ?_)
  have hB : Bx B0 D _ [(w, .inr (6, [.int 0, .int 0, .int 0, .null, .ref q4394, .null, .null, .null])), (q4394, .inl (cs 2, 8, .inl (fun _ => 0)))] [w, q4394] _ _ := hB
  refine lv_aload_n hx hb dX6_init_12 rfl (lv_at hl 0 rfl) ?_
  refine lv_bipush (v := 8) hx hb dX6_init_13 (by decide) ?_
  refine nw_a (atype := .int) (ty := .int) (N' := 8) (a0 := (8, .inl (fun _ => 0))) 0 hN rfl hx hb (hts _ mX6_init_6) rfl (fun _ => rfl) (nI_pos (n := 8) (by omega)) (nI_clamp (n := 8) (by omega)) (show 8 * _ ≤ _ by simp only [componentBytes]; omega) (show 1 + 1 ≤ 4 by omega) (show (0 + 8) + 8 ≤ 88 by omega) dX6_init_15 (fun q4395 H heq4395 hzq4395 hoq4395 hatq4395 => ?_)
  have hgeq4395 : _ ≤ q4395 := Nat.le_trans hB.2.2.1 (Nat.le_of_eq heq4395.symm)
  have hbq4395 : B0 ≤ q4395 := Nat.le_trans hb0 hgeq4395
  have hfq4395 : (κ q4395).1 = 0 := hT.fresh hgeq4395
  have hB := hB.nwm heq4395 hzq4395 hoq4395 hatq4395 hb0
  have hB : Bx B0 D _ [(w, .inr (6, [.int 0, .int 0, .int 0, .null, .ref q4394, .null, .null, .null])), (q4394, .inl (cs 2, 8, .inl (fun _ => 0))), (q4395, .inl (cs 0, 8, .inl (fun _ => 0)))] [q4395, w, q4394] _ _ := hB
  refine b_putF (D := D) (ci := 6) (v := .ref q4395) (ty := .array .int) (C := RX6) (T := TX6) (N := 8) hx hb hts iX6_init_6 tyX6 tyX6_ok nmX6 hown hN hB 0 rfl rfl 5 (by decide) (hts _ mX6_init_7) (fun _ h9 => h9) rfl hin rfl (by decide +kernel) rfl rfl (Nat.le_of_ble_eq_true rfl) (.inr ⟨rfl, List.mem_of_getElem? (i := 1) rfl⟩) dX6_init_17 (fun H locs hB => ?_)
  have hB : Bx B0 D _ [(w, .inr (6, [.int 0, .int 0, .int 0, .null, .ref q4394, .ref q4395, .null, .null])), (q4394, .inl (cs 2, 8, .inl (fun _ => 0))), (q4395, .inl (cs 0, 8, .inl (fun _ => 0)))] [q4395, w, q4394] _ _ := hB
  refine lv_aload_n hx hb dX6_init_20 rfl (lv_at hl 0 rfl) ?_
  refine lv_bipush (v := 8) hx hb dX6_init_21 (by decide) ?_
  refine nw_a (atype := .int) (ty := .int) (N' := 8) (a0 := (8, .inl (fun _ => 0))) 0 hN rfl hx hb (hts _ mX6_init_6) rfl (fun _ => rfl) (nI_pos (n := 8) (by omega)) (nI_clamp (n := 8) (by omega)) (show 8 * _ ≤ _ by simp only [componentBytes]; omega) (show 2 + 1 ≤ 4 by omega) (show ((0 + 8) + 8) + 8 ≤ 88 by omega) dX6_init_23 (fun q4396 H heq4396 hzq4396 hoq4396 hatq4396 => ?_)
  have hgeq4396 : _ ≤ q4396 := Nat.le_trans hB.2.2.1 (Nat.le_of_eq heq4396.symm)
  have hbq4396 : B0 ≤ q4396 := Nat.le_trans hb0 hgeq4396
  have hfq4396 : (κ q4396).1 = 0 := hT.fresh hgeq4396
  have hB := hB.nwm heq4396 hzq4396 hoq4396 hatq4396 hb0
  have hB : Bx B0 D _ [(w, .inr (6, [.int 0, .int 0, .int 0, .null, .ref q4394, .ref q4395, .null, .null])), (q4394, .inl (cs 2, 8, .inl (fun _ => 0))), (q4395, .inl (cs 0, 8, .inl (fun _ => 0))), (q4396, .inl (cs 0, 8, .inl (fun _ => 0)))] [q4396, q4395, w, q4394] _ _ := hB
  refine b_putF (D := D) (ci := 6) (v := .ref q4396) (ty := .array .int) (C := RX6) (T := TX6) (N := 8) hx hb hts iX6_init_6 tyX6 tyX6_ok nmX6 hown hN hB 0 rfl rfl 6 (by decide) (hts _ mX6_init_8) (fun _ h9 => h9) rfl hin rfl (by decide +kernel) rfl rfl (Nat.le_of_ble_eq_true rfl) (.inr ⟨rfl, List.mem_of_getElem? (i := 2) rfl⟩) dX6_init_25 (fun H locs hB => ?_)
  have hB : Bx B0 D _ [(w, .inr (6, [.int 0, .int 0, .int 0, .null, .ref q4394, .ref q4395, .ref q4396, .null])), (q4394, .inl (cs 2, 8, .inl (fun _ => 0))), (q4395, .inl (cs 0, 8, .inl (fun _ => 0))), (q4396, .inl (cs 0, 8, .inl (fun _ => 0)))] [q4396, q4395, w, q4394] _ _ := hB
  refine lv_aload_n hx hb dX6_init_28 rfl (lv_at hl 0 rfl) ?_
  refine lv_bipush (v := 64) hx hb dX6_init_29 (by decide) ?_
  refine nw_a (atype := .int) (ty := .int) (N' := 64) (a0 := (64, .inl (fun _ => 0))) 0 hN rfl hx hb (hts _ mX6_init_6) rfl (fun _ => rfl) (nI_pos (n := 64) (by omega)) (nI_clamp (n := 64) (by omega)) (show 64 * _ ≤ _ by simp only [componentBytes]; omega) (show 3 + 1 ≤ 4 by omega) (show (((0 + 8) + 8) + 8) + 64 ≤ 88 by omega) dX6_init_31 (fun q4397 H heq4397 hzq4397 hoq4397 hatq4397 => ?_)
  have hgeq4397 : _ ≤ q4397 := Nat.le_trans hB.2.2.1 (Nat.le_of_eq heq4397.symm)
  have hbq4397 : B0 ≤ q4397 := Nat.le_trans hb0 hgeq4397
  have hfq4397 : (κ q4397).1 = 0 := hT.fresh hgeq4397
  have hB := hB.nwm heq4397 hzq4397 hoq4397 hatq4397 hb0
  have hB : Bx B0 D _ [(w, .inr (6, [.int 0, .int 0, .int 0, .null, .ref q4394, .ref q4395, .ref q4396, .null])), (q4394, .inl (cs 2, 8, .inl (fun _ => 0))), (q4395, .inl (cs 0, 8, .inl (fun _ => 0))), (q4396, .inl (cs 0, 8, .inl (fun _ => 0))), (q4397, .inl (cs 0, 64, .inl (fun _ => 0)))] [q4397, q4396, q4395, w, q4394] _ _ := hB
  refine b_putF (D := D) (ci := 6) (v := .ref q4397) (ty := .array .int) (C := RX6) (T := TX6) (N := 8) hx hb hts iX6_init_6 tyX6 tyX6_ok nmX6 hown hN hB 0 rfl rfl 7 (by decide) (hts _ mX6_init_9) (fun _ h9 => h9) rfl hin rfl (by decide +kernel) rfl rfl (Nat.le_of_ble_eq_true rfl) (.inr ⟨rfl, List.mem_of_getElem? (i := 3) rfl⟩) dX6_init_33 (fun H locs hB => ?_)
  have hB : Bx B0 D _ [(w, .inr (6, [.int 0, .int 0, .int 0, .null, .ref q4394, .ref q4395, .ref q4396, .ref q4397])), (q4394, .inl (cs 2, 8, .inl (fun _ => 0))), (q4395, .inl (cs 0, 8, .inl (fun _ => 0))), (q4396, .inl (cs 0, 8, .inl (fun _ => 0))), (q4397, .inl (cs 0, 64, .inl (fun _ => 0)))] [q4397, q4396, q4395, w, q4394] _ _ := hB
  refine lv_aload_n hx hb dX6_init_36 rfl (lv_at hl 0 rfl) ?_
  refine lv_iload_n hx hb dX6_init_37 rfl (lv_at hl 1 rfl) ?_
  refine b_putF (D := D) (ci := 6) (v := .int (nI n)) (ty := .int) (C := RX6) (T := TX6) (N := 8) hx hb hts iX6_init_6 tyX6 tyX6_ok nmX6 hown hN hB 0 rfl rfl 0 (by decide) (hts _ mX6_init_10) (fun _ h9 => h9) rfl hin rfl (by decide +kernel) rfl rfl (Nat.le_of_ble_eq_true rfl) (.inr ⟨rfl, List.mem_of_getElem? (i := 3) rfl⟩) dX6_init_38 (fun H locs hB => ?_)
  have hB : Bx B0 D _ [(w, .inr (6, [.int (nI n), .int 0, .int 0, .null, .ref q4394, .ref q4395, .ref q4396, .ref q4397])), (q4394, .inl (cs 2, 8, .inl (fun _ => 0))), (q4395, .inl (cs 0, 8, .inl (fun _ => 0))), (q4396, .inl (cs 0, 8, .inl (fun _ => 0))), (q4397, .inl (cs 0, 64, .inl (fun _ => 0)))] [q4397, q4396, q4395, w, q4394] _ _ := hB
  obtain ⟨κ4398, hκ4398⟩ : ∃ κ9 : KM, κ9 = (ku (ku (ku (ku (ku κ w (7, 11, 0, 0)) q4394 (18, 11, 0, 0)) q4395 (19, 11, 0, 0)) q4396 (19, 11, 0, 0)) q4397 (20, 11, 0, 0)) := ⟨_, rfl⟩
  have hx4398 : KX κ κ4398 := by rw [hκ4398]; exact (((((KX.ku hfw).tr (KX.ku (by rw [ku_n (fun e9 => absurd (hB.2.1.1 1 0 _ _ rfl rfl e9) (by decide))]; exact hfq4394))).tr (KX.ku (by rw [ku_n (fun e9 => absurd (hB.2.1.1 2 1 _ _ rfl rfl e9) (by decide)), ku_n (fun e9 => absurd (hB.2.1.1 2 0 _ _ rfl rfl e9) (by decide))]; exact hfq4395))).tr (KX.ku (by rw [ku_n (fun e9 => absurd (hB.2.1.1 3 2 _ _ rfl rfl e9) (by decide)), ku_n (fun e9 => absurd (hB.2.1.1 3 1 _ _ rfl rfl e9) (by decide)), ku_n (fun e9 => absurd (hB.2.1.1 3 0 _ _ rfl rfl e9) (by decide))]; exact hfq4396))).tr (KX.ku (by rw [ku_n (fun e9 => absurd (hB.2.1.1 4 3 _ _ rfl rfl e9) (by decide)), ku_n (fun e9 => absurd (hB.2.1.1 4 2 _ _ rfl rfl e9) (by decide)), ku_n (fun e9 => absurd (hB.2.1.1 4 1 _ _ rfl rfl e9) (by decide)), ku_n (fun e9 => absurd (hB.2.1.1 4 0 _ _ rfl rfl e9) (by decide))]; exact hfq4397)))
  have ew : κ4398 w = (7, 11, 0, 0) := by rw [hκ4398, ku_n (fun e9 => absurd (hB.2.1.1 0 4 _ _ rfl rfl e9) (by decide)), ku_n (fun e9 => absurd (hB.2.1.1 0 3 _ _ rfl rfl e9) (by decide)), ku_n (fun e9 => absurd (hB.2.1.1 0 2 _ _ rfl rfl e9) (by decide)), ku_n (fun e9 => absurd (hB.2.1.1 0 1 _ _ rfl rfl e9) (by decide)), ku_a]
  have hw : T2 κ4398 w 7 11 := ⟨by rw [ew], by rw [ew]⟩
  have eq4394 : κ4398 q4394 = (18, 11, 0, 0) := by rw [hκ4398, ku_n (fun e9 => absurd (hB.2.1.1 1 4 _ _ rfl rfl e9) (by decide)), ku_n (fun e9 => absurd (hB.2.1.1 1 3 _ _ rfl rfl e9) (by decide)), ku_n (fun e9 => absurd (hB.2.1.1 1 2 _ _ rfl rfl e9) (by decide)), ku_a]
  have hq4394 : T2 κ4398 q4394 18 11 := ⟨by rw [eq4394], by rw [eq4394]⟩
  have eq4395 : κ4398 q4395 = (19, 11, 0, 0) := by rw [hκ4398, ku_n (fun e9 => absurd (hB.2.1.1 2 4 _ _ rfl rfl e9) (by decide)), ku_n (fun e9 => absurd (hB.2.1.1 2 3 _ _ rfl rfl e9) (by decide)), ku_a]
  have hq4395 : T2 κ4398 q4395 19 11 := ⟨by rw [eq4395], by rw [eq4395]⟩
  have eq4396 : κ4398 q4396 = (19, 11, 0, 0) := by rw [hκ4398, ku_n (fun e9 => absurd (hB.2.1.1 3 4 _ _ rfl rfl e9) (by decide)), ku_a]
  have hq4396 : T2 κ4398 q4396 19 11 := ⟨by rw [eq4396], by rw [eq4396]⟩
  have eq4397 : κ4398 q4397 = (20, 11, 0, 0) := by rw [hκ4398, ku_a]
  have hq4397 : T2 κ4398 q4397 20 11 := ⟨by rw [eq4397], by rw [eq4397]⟩
  have hx9 := hx4398
  have hT : WT B0 D cs T κ4398 _ := hT.closeN hB hx4398 (fun a9 h9 => by rw [hκ4398, ku_n (fun e9 => h9 (by rw [e9]; exact List.mem_of_getElem? (i := 0) rfl)), ku_n (fun e9 => h9 (by rw [e9]; exact List.mem_of_getElem? (i := 1) rfl)), ku_n (fun e9 => h9 (by rw [e9]; exact List.mem_of_getElem? (i := 2) rfl)), ku_n (fun e9 => h9 (by rw [e9]; exact List.mem_of_getElem? (i := 4) rfl)), ku_n (fun e9 => h9 (by rw [e9]; exact List.mem_of_getElem? (i := 3) rfl))]) ⟨⟨4, _, rfl, ok_20 hq4397.1 ⟨_, rfl, (fun _ _ => ⟨0, Nat.zero_le _, rfl⟩)⟩⟩, ⟨⟨3, _, rfl, ok_19 hq4396.1 ⟨_, rfl⟩⟩, ⟨⟨2, _, rfl, ok_19 hq4395.1 ⟨_, rfl⟩⟩, ⟨⟨0, _, rfl, ok_7 hw.1 ⟨_, _, _, _, _, _, _, _, rfl, (by omega), (Or.inl rfl), (Or.inl (by rw [ew]; decide)), ⟨hq4394.1, by rw [ew]; exact hq4394.2⟩, ⟨hq4395.1, by rw [ew]; exact hq4395.2⟩, ⟨hq4396.1, by rw [ew]; exact hq4396.2⟩, ⟨hq4397.1, by rw [ew]; exact hq4397.2⟩⟩⟩, ⟨⟨1, _, rfl, ok_18 hq4394.1 ⟨_, rfl, (fun _ _ => Or.inl rfl)⟩⟩, trivial⟩⟩⟩⟩⟩
  have hF : Fr B0 [] κ H0 _ := hF.closeN hB (fa_c (fun h9 => absurd hfq4397 h9) (fa_c (fun h9 => absurd hfq4396 h9) (fa_c (fun h9 => absurd hfq4395 h9) (fa_c (fun h9 => absurd hfw h9) (fa_c (fun h9 => absurd hfq4394 h9) fa_n)))))
  have hL : OkL B0 _ := hB.2.2.2.2.2
  have hKF : KF κ κ4398 := hx4398.f
  have hKX : KX κ κ4398 := hx4398
  have hP : va_P D vwCl [(w, .inr (6, [.int (nI n), .int 0, .int 0, .null, .ref q4394, .ref q4395, .ref q4396, .ref q4397])), (q4394, .inl (cs 2, 8, .inl (fun _ => 0))), (q4395, .inl (cs 0, 8, .inl (fun _ => 0))), (q4396, .inl (cs 0, 8, .inl (fun _ => 0))), (q4397, .inl (cs 0, 64, .inl (fun _ => 0)))] _ := hB.1
  exact en_v hx hb hr hlocks hL (show 4 ≤ 4 by omega) (show ((((0 + 8) + 8) + 8) + 64) ≤ 88 by omega) dX6_init_41 (⟨_, hKX, hT, hF, hw, ew⟩)
theorem mX5_readStatement_7 : (.fieldLink RX5 124 "OneBeat$Reader" "start" "I" : Cond) ∈ wsX5_readStatement := List.mem_of_getElem? (i := 7) (by decide +kernel)
theorem iX5_readStatement_5 : ∀ w ∈ wsX50, w ∈ wsX5_readStatement := fun w h => List.mem_of_mem_drop (List.mem_of_mem_take ((show wsX50 = (wsX5_readStatement.drop 183).take 14 by decide +kernel) ▸ h))
theorem mX5_readStatement_1 : (.fieldLink RX5 65 "OneBeat$Reader" "setup" "LOneBeat$Setup;" : Cond) ∈ wsX5_readStatement := List.mem_of_getElem? (i := 1) (by decide +kernel)
theorem iX5_readStatement_6 : ∀ w ∈ wsX60, w ∈ wsX5_readStatement := fun w h => List.mem_of_mem_drop (List.mem_of_mem_take ((show wsX60 = (wsX5_readStatement.drop 197).take 8 by decide +kernel) ▸ h))
theorem iX5_readStatement_0 : ∀ w ∈ wsX00, w ∈ wsX5_readStatement := fun w h => List.mem_of_mem_drop (List.mem_of_mem_take ((show wsX00 = (wsX5_readStatement.drop 205).take 2 by decide +kernel) ▸ h))
theorem mX5_readStatement_2 : (.classLink RX5 119 RX0 : Cond) ∈ wsX5_readStatement := List.mem_of_getElem? (i := 2) (by decide +kernel)
theorem mX5_readStatement_3 : (.instantiable RX0 2 : Cond) ∈ wsX5_readStatement := List.mem_of_getElem? (i := 3) (by decide +kernel)
theorem mX5_readStatement_4 : (.initialized RX0 : Cond) ∈ wsX5_readStatement := List.mem_of_getElem? (i := 4) (by decide +kernel)
theorem dfl0 : ∀ j, j < 2 → defaultValue (tyX0 j) = vp_V [.null, .null] j := by decide +kernel
theorem mX5_readStatement_5 : (.fieldLink RX5 15 "OneBeat$Reader" "codes" "[I" : Cond) ∈ wsX5_readStatement := List.mem_of_getElem? (i := 5) (by decide +kernel)
theorem mX5_readStatement_6 : (.fieldLink RX5 38 "OneBeat$Reader" "codeCount" "I" : Cond) ∈ wsX5_readStatement := List.mem_of_getElem? (i := 6) (by decide +kernel)
theorem mX5_readStatement_157 : (.instanceMethod yX0_init : Cond) ∈ wsX5_readStatement := List.mem_of_getElem? (i := 157) (by decide +kernel)
theorem mX5_readStatement_156 : (.methodLink RX5 121 yX0_init : Cond) ∈ wsX5_readStatement := List.mem_of_getElem? (i := 156) (by decide +kernel)
theorem hdX0_init_o : yX0_init.cls ≠ "java/lang/invoke/MethodHandle" ∧ yX0_init.cls ≠ "java/lang/invoke/VarHandle" ∧ (parseMethodDescriptor yX0_init.desc).map (fun d => d.parameters.length) = some 2 := by decide +kernel
theorem hdX5_readPatience_v : yX5_readPatience.cls = RX5 ∧ yX5_readPatience.cls ≠ "java/lang/invoke/MethodHandle" ∧ yX5_readPatience.cls ≠ "java/lang/invoke/VarHandle" ∧ (parseMethodDescriptor yX5_readPatience.desc).map (fun d => d.parameters.length) = some 0 := by decide +kernel
theorem hdX5_readNeed_v : yX5_readNeed.cls = RX5 ∧ yX5_readNeed.cls ≠ "java/lang/invoke/MethodHandle" ∧ yX5_readNeed.cls ≠ "java/lang/invoke/VarHandle" ∧ (parseMethodDescriptor yX5_readNeed.desc).map (fun d => d.parameters.length) = some 0 := by decide +kernel
theorem hdX5_readLink_v : yX5_readLink.cls = RX5 ∧ yX5_readLink.cls ≠ "java/lang/invoke/MethodHandle" ∧ yX5_readLink.cls ≠ "java/lang/invoke/VarHandle" ∧ (parseMethodDescriptor yX5_readLink.desc).map (fun d => d.parameters.length) = some 0 := by decide +kernel
theorem hdX5_readClock_v : yX5_readClock.cls = RX5 ∧ yX5_readClock.cls ≠ "java/lang/invoke/MethodHandle" ∧ yX5_readClock.cls ≠ "java/lang/invoke/VarHandle" ∧ (parseMethodDescriptor yX5_readClock.desc).map (fun d => d.parameters.length) = some 0 := by decide +kernel
set_option maxHeartbeats 4000000 in
set_option maxRecDepth 100000 in
theorem c_X5_readStatement {l : Launch} {D : va_G} {cs : Nat → ClassId} {B0 T : Nat} {κ : KM} {H0 : Heap} (hT : WT B0 D cs T κ H0) {w : Nat} (hw : T2 κ w 6 10) (hs0 : ¬ (κ w).2.2.2 = 0) (hsu : T2 κ (κ w).2.2.2 7 11) : KC l yX5_readStatement wsX5_readStatement 21 467 3 618 D cs B0 H0 [.ref w] (Qi (fun r H => ∃ κ1, (∀ a, (κ a).1 ≠ 0 → a ≠ (κ w).2.2.2 → κ1 a = κ a) ∧ WT B0 D cs T κ1 H ∧ Fr B0 [10, 11] κ H0 H ∧ T2 κ1 (κ w).2.2.2 7 11 ∧ (((κ1 (κ w).2.2.2).2.2.1 = (κ (κ w).2.2.2).2.2.1 ∧ Gr H0 H 0 0) ∨ ((κ (κ w).2.2.2).2.2.1 ≠ 1 ∧ (κ1 (κ w).2.2.2).2.2.1 = 1 ∧ Gr H0 H 3 618)) ∧ (r = 0 ∨ r = 1))) := by
  refine KC.of cX5_readStatement 1 (some .boolean) (by decide) rfl (Nat.le_of_ble_eq_true rfl) ?_
  intro p e s m below meth c ls hx hb hr hml hown hts hlocks hin hN hE hH0 hl
  have hown : s.vm.findClass RX5 = some m.cls := hown
  have hl : lv_has ls 1 [(0, .ref w)] := hl
  have hL : OkL B0 [] := OkL.nil
  have hF : Fr B0 [10, 11] κ H0 H0 := Fr.rf
  refine lv_aload_n hx hb dX5_readStatement_0 rfl (lv_at hl 0 rfl) ?_
  refine va_ldcS hx hb hown (hN.s 2 rfl) dX5_readStatement_1 ?_
  refine cv_i (As := [.ref (cs 102)]) (rest := []) (b := w) ⟨hx, hb, hml, hown, hts⟩ (c_X5_isWord hT (w := w) hw (i := 2) (by decide)) (cwV 1 hts gX5_readStatement_X5_isWord rfl rfl rfl hdX5_isWord_v ⟨Nat.le_of_ble_eq_true rfl, Nat.le_of_ble_eq_true rfl⟩) hN hE hL (rcv6 hN hT hw.1) rfl rfl hl.1 (Nat.le_of_ble_eq_true rfl) dX5_readStatement_3 (Nat.zero_le _) (Nat.zero_le _) (fun r4399 H1 locs hL hqr4399 => ?_)
  obtain ⟨h9, hqr4399⟩ := hqr4399; replace h9 := h9.symm; subst h9
  rcases hqr4399 with rfl | rfl
  · refine lv_if_eq (tgt := 14) hx hb dX5_readStatement_6 (by decide) (fun _ => ?_) (fun c9 => absurd (by decide) c9)
    refine lv_aload_n hx hb dX5_readStatement_14 rfl (lv_at hl 0 rfl) ?_
    refine va_ldcS hx hb hown (hN.s 3 rfl) dX5_readStatement_15 ?_
    refine cv_i (As := [.ref (cs 103)]) (rest := []) (b := w) ⟨hx, hb, hml, hown, hts⟩ (c_X5_isWord hT (w := w) hw (i := 3) (by decide)) (cwV 1 hts gX5_readStatement_X5_isWord rfl rfl rfl hdX5_isWord_v ⟨Nat.le_of_ble_eq_true rfl, Nat.le_of_ble_eq_true rfl⟩) hN hE hL (rcv6 hN hT hw.1) rfl rfl hl.1 (Nat.le_of_ble_eq_true rfl) dX5_readStatement_17 (Nat.zero_le _) (Nat.zero_le _) (fun r4400 H1 locs hL hqr4400 => ?_)
    obtain ⟨h9, hqr4400⟩ := hqr4400; replace h9 := h9.symm; subst h9
    rcases hqr4400 with rfl | rfl
    · refine lv_if_eq (tgt := 28) hx hb dX5_readStatement_20 (by decide) (fun _ => ?_) (fun c9 => absurd (by decide) c9)
      refine lv_aload_n hx hb dX5_readStatement_28 rfl (lv_at hl 0 rfl) ?_
      refine va_ldcS hx hb hown (hN.s 4 rfl) dX5_readStatement_29 ?_
      refine cv_i (As := [.ref (cs 104)]) (rest := []) (b := w) ⟨hx, hb, hml, hown, hts⟩ (c_X5_isWord hT (w := w) hw (i := 4) (by decide)) (cwV 1 hts gX5_readStatement_X5_isWord rfl rfl rfl hdX5_isWord_v ⟨Nat.le_of_ble_eq_true rfl, Nat.le_of_ble_eq_true rfl⟩) hN hE hL (rcv6 hN hT hw.1) rfl rfl hl.1 (Nat.le_of_ble_eq_true rfl) dX5_readStatement_31 (Nat.zero_le _) (Nat.zero_le _) (fun r4401 H1 locs hL hqr4401 => ?_)
      obtain ⟨h9, hqr4401⟩ := hqr4401; replace h9 := h9.symm; subst h9
      rcases hqr4401 with rfl | rfl
      · refine lv_if_eq (tgt := 52) hx hb dX5_readStatement_34 (by decide) (fun _ => ?_) (fun c9 => absurd (by decide) c9)
        refine lv_aload_n hx hb dX5_readStatement_52 rfl (lv_at hl 0 rfl) ?_
        refine va_ldcS hx hb hown (hN.s 5 rfl) dX5_readStatement_53 ?_
        refine cv_i (As := [.ref (cs 105)]) (rest := []) (b := w) ⟨hx, hb, hml, hown, hts⟩ (c_X5_isWord hT (w := w) hw (i := 5) (by decide)) (cwV 1 hts gX5_readStatement_X5_isWord rfl rfl rfl hdX5_isWord_v ⟨Nat.le_of_ble_eq_true rfl, Nat.le_of_ble_eq_true rfl⟩) hN hE hL (rcv6 hN hT hw.1) rfl rfl hl.1 (Nat.le_of_ble_eq_true rfl) dX5_readStatement_55 (Nat.zero_le _) (Nat.zero_le _) (fun r4402 H1 locs hL hqr4402 => ?_)
        obtain ⟨h9, hqr4402⟩ := hqr4402; replace h9 := h9.symm; subst h9
        rcases hqr4402 with rfl | rfl
        · refine lv_if_eq (tgt := 76) hx hb dX5_readStatement_58 (by decide) (fun _ => ?_) (fun c9 => absurd (by decide) c9)
          refine lv_aload_n hx hb dX5_readStatement_76 rfl (lv_at hl 0 rfl) ?_
          refine va_ldcS hx hb hown (hN.s 6 rfl) dX5_readStatement_77 ?_
          refine cv_i (As := [.ref (cs 106)]) (rest := []) (b := w) ⟨hx, hb, hml, hown, hts⟩ (c_X5_isWord hT (w := w) hw (i := 6) (by decide)) (cwV 1 hts gX5_readStatement_X5_isWord rfl rfl rfl hdX5_isWord_v ⟨Nat.le_of_ble_eq_true rfl, Nat.le_of_ble_eq_true rfl⟩) hN hE hL (rcv6 hN hT hw.1) rfl rfl hl.1 (Nat.le_of_ble_eq_true rfl) dX5_readStatement_79 (Nat.zero_le _) (Nat.zero_le _) (fun r4403 H1 locs hL hqr4403 => ?_)
          obtain ⟨h9, hqr4403⟩ := hqr4403; replace h9 := h9.symm; subst h9
          rcases hqr4403 with rfl | rfl
          · refine lv_if_eq (tgt := 133) hx hb dX5_readStatement_82 (by decide) (fun _ => ?_) (fun c9 => absurd (by decide) c9)
            refine lv_aload_n hx hb dX5_readStatement_133 rfl (lv_at hl 0 rfl) ?_
            refine lv_bipush (v := (-2)) hx hb dX5_readStatement_134 (by decide) ?_
            refine lv_aload_n hx hb dX5_readStatement_136 rfl (lv_at hl 0 rfl) ?_
            obtain ⟨hb4404, e4404, hat4404, hk4404⟩ := hT.o6 hw.1
            obtain ⟨f4404_0, f4404_2, f4404_3, f4404_4, f4404_5, f4404_6, f4404_7, f4404_8, f4404_9, f4404_10, f4404_11, f4404_12, f4404_13, rfl, c4404_1, c4404_2, c4404_3, c4404_5, c4404_10, t4404_0, t4404_9, c4404_11, c4404_p2⟩ := hk4404
            obtain rfl : f4404_11 = .ref (κ w).2.2.2 := c4404_p2.resolve_left hs0
            have hP : va_P D vwCl [(w, .inr (5, [.ref f4404_0, .int (nI ((κ w).2.2.1)), .int (nI f4404_2), .int (nI f4404_3), .int f4404_4, .int (nI f4404_5), .int f4404_6, .int f4404_7, .int f4404_8, .ref f4404_9, .int (nI f4404_10), .ref (κ w).2.2.2, .int f4404_12, .int f4404_13]))] _ := va_P.cons hat4404 va_P.nil
            refine va_get (D := D) (ci := 5) (v := .int (nI f4404_5)) (C := RX5) (T := TX5) (N := 14) hx hb hts iX5_readStatement_5 hown hN.1 hP 0 rfl rfl 5 (by decide) (hts _ mX5_readStatement_7) (fun _ h9 => h9) rfl dX5_readStatement_137 ?_
            refine cv_i (As := [.int (-2), .int (nI f4404_5)]) (rest := []) (b := w) ⟨hx, hb, hml, hown, hts⟩ (c_X5_fail hT (w := w) hw (x := (-2)) (y := (nI f4404_5))) (cwV 2 hts gX5_readStatement_X5_fail rfl rfl rfl hdX5_fail_v ⟨Nat.le_of_ble_eq_true rfl, Nat.le_of_ble_eq_true rfl⟩) hN hE hL (rcv6 hN hT hw.1) rfl rfl hl.1 (Nat.le_of_ble_eq_true rfl) dX5_readStatement_140 (Nat.zero_le _) (Nat.zero_le _) (fun r4405 H1 locs hL hqr4405 => ?_)
            obtain ⟨hT1, hF1, hqr4405⟩ := hqr4405
            have hF := hF.tr (hF1.mono (by simp))
            have hT := hT1
            obtain rfl := hqr4405
            refine W.know (fun hg => ?_)
            rw [hH0] at hg
            exact en_i hx hb hr hlocks hL rfl (Nat.zero_le _) (Nat.zero_le _) dX5_readStatement_143 (⟨_, (fun _ _ _ => rfl), hT, hF, hsu, Or.inl ⟨rfl, hg⟩, Or.inl rfl⟩)
          · refine lv_if_eq (tgt := 133) hx hb dX5_readStatement_82 (by decide) (fun c9 => absurd c9 (by decide)) (fun _ => ?_)
            refine lv_aload_n hx hb dX5_readStatement_85 rfl (lv_at hl 0 rfl) ?_
            obtain ⟨hb4406, e4406, hat4406, hk4406⟩ := hT.o6 hw.1
            obtain ⟨f4406_0, f4406_2, f4406_3, f4406_4, f4406_5, f4406_6, f4406_7, f4406_8, f4406_9, f4406_10, f4406_11, f4406_12, f4406_13, rfl, c4406_1, c4406_2, c4406_3, c4406_5, c4406_10, t4406_0, t4406_9, c4406_11, c4406_p2⟩ := hk4406
            obtain rfl : f4406_11 = .ref (κ w).2.2.2 := c4406_p2.resolve_left hs0
            have hP : va_P D vwCl [(w, .inr (5, [.ref f4406_0, .int (nI ((κ w).2.2.1)), .int (nI f4406_2), .int (nI f4406_3), .int f4406_4, .int (nI f4406_5), .int f4406_6, .int f4406_7, .int f4406_8, .ref f4406_9, .int (nI f4406_10), .ref (κ w).2.2.2, .int f4406_12, .int f4406_13]))] _ := va_P.cons hat4406 va_P.nil
            refine va_get (D := D) (ci := 5) (v := .ref (κ w).2.2.2) (C := RX5) (T := TX5) (N := 14) hx hb hts iX5_readStatement_5 hown hN.1 hP 0 rfl rfl 11 (by decide) (hts _ mX5_readStatement_1) (fun _ h9 => h9) rfl dX5_readStatement_86 ?_
            obtain ⟨hb4407, e4407, hat4407, hk4407⟩ := hT.o7 hsu.1
            obtain ⟨f4407_0, f4407_1, f4407_2, f4407_3, f4407_4, f4407_5, f4407_6, f4407_7, rfl, c4407_0, c4407_3, c4407_mg, t4407_4, t4407_5, t4407_6, t4407_7⟩ := hk4407
            rw [hsu.2] at t4407_4
            rw [hsu.2] at t4407_5
            rw [hsu.2] at t4407_6
            rw [hsu.2] at t4407_7
            have hP : va_P D vwCl [((κ w).2.2.2, .inr (6, [.int (nI f4407_0), .int f4407_1, .int f4407_2, f4407_3, .ref f4407_4, .ref f4407_5, .ref f4407_6, .ref f4407_7])), (w, .inr (5, [.ref f4406_0, .int (nI ((κ w).2.2.1)), .int (nI f4406_2), .int (nI f4406_3), .int f4406_4, .int (nI f4406_5), .int f4406_6, .int f4406_7, .int f4406_8, .ref f4406_9, .int (nI f4406_10), .ref (κ w).2.2.2, .int f4406_12, .int f4406_13]))] _ := va_P.cons hat4407 hP
            rcases c4407_3 with rfl | ⟨a4408, rfl, ta4408⟩
            · refine va_getN (D := D) (ci := 6) (v := .null) (C := RX6) (T := TX6) (N := 8) hx hb hts iX5_readStatement_6 hown hN.1 hP 0 rfl rfl 3 (by decide) (hN.f 44 rfl) (fun _ h9 => h9) rfl dX5_readStatement_89 ?_
              refine lv_ifnonnullN hx hb dX5_readStatement_92 ?_
              have hmg1 : (κ (κ w).2.2.2).2.2.1 ≠ 1 := (c4407_mg).resolve_right (by rintro ⟨_, h9⟩; cases h9)
              refine lv_aload_n hx hb dX5_readStatement_95 rfl (lv_at hl 0 rfl) ?_
              refine cv_v (As := []) (rest := []) (b := w) ⟨hx, hb, hml, hown, hts⟩ (c_X5_step hT (w := w) hw) (cwV 0 hts gX5_readStatement_X5_step rfl rfl rfl hdX5_step_v ⟨Nat.le_of_ble_eq_true rfl, Nat.le_of_ble_eq_true rfl⟩) hN hE hL (rcv6 hN hT hw.1) rfl rfl hl.1 (Nat.le_of_ble_eq_true rfl) dX5_readStatement_96 (Nat.zero_le _) (Nat.zero_le _) (fun H1 locs hL hqr4409 => ?_)
              obtain ⟨hT1, hF1, hqr4409⟩ := hqr4409
              have hP : va_P D vwCl [((κ w).2.2.2, .inr (6, [.int (nI f4407_0), .int f4407_1, .int f4407_2, .null, .ref f4407_4, .ref f4407_5, .ref f4407_6, .ref f4407_7]))] _ := hF1.hP (hP.sub [0] rfl) (fa_c ⟨by rw [hsu.1]; decide, by rw [hsu.2]; first | decide | (simp; done) | (simp; omega)⟩ fa_n)
              have hF := hF.tr (hF1.mono (by simp))
              have hT := hT1
              have f4410 := hqr4409
              refine lv_aload_n hx hb dX5_readStatement_99 rfl (lv_at hl 0 rfl) ?_
              refine lv_iconst (v := 0) hx hb dX5_readStatement_100 (by decide) ?_
              refine cv_i (As := [.int 0]) (rest := []) (b := w) ⟨hx, hb, hml, hown, hts⟩ (c_X5_readSum_d0 hT (w := w) hw) (cwV 1 hts gX5_readStatement_X5_readSum rfl rfl rfl hdX5_readSum_v ⟨Nat.le_of_ble_eq_true rfl, Nat.le_of_ble_eq_true rfl⟩) hN hE hL (rcv6 hN hT hw.1) rfl rfl hl.1 (Nat.le_of_ble_eq_true rfl) dX5_readStatement_101 (Nat.zero_le _) (Nat.zero_le _) (fun r4411 H1 locs hL hqr4411 => ?_)
              obtain ⟨hT1, hF1, hqr4411⟩ := hqr4411
              have hP : va_P D vwCl [((κ w).2.2.2, .inr (6, [.int (nI f4407_0), .int f4407_1, .int f4407_2, .null, .ref f4407_4, .ref f4407_5, .ref f4407_6, .ref f4407_7]))] _ := hF1.hP (hP.sub [0] rfl) (fa_c ⟨by rw [hsu.1]; decide, by rw [hsu.2]; first | decide | (simp; done) | (simp; omega)⟩ fa_n)
              have hF := hF.tr (hF1.mono (by simp))
              have hT := hT1
              rcases hqr4411 with rfl | rfl
              · refine lv_if_ne (tgt := 109) hx hb dX5_readStatement_104 (by decide) (fun c9 => absurd (by decide) c9) (fun _ => ?_)
                refine lv_iconst (v := 0) hx hb dX5_readStatement_107 (by decide) ?_
                refine W.know (fun hg => ?_)
                rw [hH0] at hg
                exact en_i hx hb hr hlocks hL rfl (Nat.zero_le _) (Nat.zero_le _) dX5_readStatement_108 (⟨_, (fun _ _ _ => rfl), hT, hF, hsu, Or.inl ⟨rfl, hg⟩, Or.inl rfl⟩)
              · refine lv_if_ne (tgt := 109) hx hb dX5_readStatement_104 (by decide) (fun _ => ?_) (fun c9 => absurd c9 (by decide))
                refine lv_aload_n hx hb dX5_readStatement_109 rfl (lv_at hl 0 rfl) ?_
                obtain ⟨hb4412, e4412, hat4412, hk4412⟩ := hT.o6 hw.1
                obtain ⟨f4412_0, f4412_2, f4412_3, f4412_4, f4412_5, f4412_6, f4412_7, f4412_8, f4412_9, f4412_10, f4412_11, f4412_12, f4412_13, rfl, c4412_1, c4412_2, c4412_3, c4412_5, c4412_10, t4412_0, t4412_9, c4412_11, c4412_p2⟩ := hk4412
                obtain rfl : f4412_11 = .ref (κ w).2.2.2 := c4412_p2.resolve_left hs0
                have hP : va_P D vwCl [(w, .inr (5, [.ref f4412_0, .int (nI ((κ w).2.2.1)), .int (nI f4412_2), .int (nI f4412_3), .int f4412_4, .int (nI f4412_5), .int f4412_6, .int f4412_7, .int f4412_8, .ref f4412_9, .int (nI f4412_10), .ref (κ w).2.2.2, .int f4412_12, .int f4412_13])), ((κ w).2.2.2, .inr (6, [.int (nI f4407_0), .int f4407_1, .int f4407_2, .null, .ref f4407_4, .ref f4407_5, .ref f4407_6, .ref f4407_7]))] _ := va_P.cons hat4412 hP
                refine va_get (D := D) (ci := 5) (v := .ref (κ w).2.2.2) (C := RX5) (T := TX5) (N := 14) hx hb hts iX5_readStatement_5 hown hN.1 hP 0 rfl rfl 11 (by decide) (hts _ mX5_readStatement_1) (fun _ h9 => h9) rfl dX5_readStatement_110 ?_
                have hb0 : B0 ≤ _ := hT.b0 hw (by decide)
                have hB : Bx B0 D _ [(w, .inr (5, [.ref f4412_0, .int (nI ((κ w).2.2.1)), .int (nI f4412_2), .int (nI f4412_3), .int f4412_4, .int (nI f4412_5), .int f4412_6, .int f4412_7, .int f4412_8, .ref f4412_9, .int (nI f4412_10), .ref (κ w).2.2.2, .int f4412_12, .int f4412_13])), ((κ w).2.2.2, .inr (6, [.int (nI f4407_0), .int f4407_1, .int f4407_2, .null, .ref f4407_4, .ref f4407_5, .ref f4407_6, .ref f4407_7]))] [] _ _ := Bx.of (fun a => (κ a).1) hL hP (fa_c hb4412 (fa_c hb4407 fa_n)) (by simp only [List.map_cons, List.map_nil, hw.1, hsu.1]; decide)
                refine nw_o (ci := 0) (fs := [.null, .null]) (C := RX0) (T := TX0) (N := 2) hx hb hts iX5_readStatement_0 tyX0 tyX0_ok hown (hts _ mX5_readStatement_2) (hts _ mX5_readStatement_3) (hts _ mX5_readStatement_4) hN rfl dfl0 (show 0 + 1 ≤ 3 by omega) (show 0 + 2 ≤ 618 by omega) dX5_readStatement_113 (fun q4413 H heq4413 hzq4413 hoq4413 hatq4413 => ?_)
                have hgeq4413 : _ ≤ q4413 := Nat.le_trans hB.2.2.1 (Nat.le_of_eq heq4413.symm)
                have hbq4413 : B0 ≤ q4413 := Nat.le_trans hb0 hgeq4413
                have hfq4413 : (κ q4413).1 = 0 := hT.fresh hgeq4413
                have hB := hB.nw heq4413 hzq4413 hoq4413 hatq4413 hb0
                have hB : Bx B0 D _ [(w, .inr (5, [.ref f4412_0, .int (nI ((κ w).2.2.1)), .int (nI f4412_2), .int (nI f4412_3), .int f4412_4, .int (nI f4412_5), .int f4412_6, .int f4412_7, .int f4412_8, .ref f4412_9, .int (nI f4412_10), .ref (κ w).2.2.2, .int f4412_12, .int f4412_13])), ((κ w).2.2.2, .inr (6, [.int (nI f4407_0), .int f4407_1, .int f4407_2, .null, .ref f4407_4, .ref f4407_5, .ref f4407_6, .ref f4407_7])), (q4413, .inr (0, [.null, .null]))] [] _ _ := hB
                refine lv_dup hx hb dX5_readStatement_116 rfl ?_
                refine lv_aload_n hx hb dX5_readStatement_117 rfl (lv_at hl 0 rfl) ?_
                refine va_get (D := D) (ci := 5) (v := .ref f4412_9) (C := RX5) (T := TX5) (N := 14) hx hb hts iX5_readStatement_5 hown hN.1 hB.1 0 rfl rfl 9 (by decide) (hts _ mX5_readStatement_5) (fun _ h9 => h9) rfl dX5_readStatement_118 ?_
                refine lv_aload_n hx hb dX5_readStatement_121 rfl (lv_at hl 0 rfl) ?_
                refine va_get (D := D) (ci := 5) (v := .int (nI f4412_10)) (C := RX5) (T := TX5) (N := 14) hx hb hts iX5_readStatement_5 hown hN.1 hB.1 0 rfl rfl 10 (by decide) (hts _ mX5_readStatement_6) (fun _ h9 => h9) rfl dX5_readStatement_122 ?_
                have hT : WT B0 D cs T κ _ := hT.close hB trivial
                have hF : Fr B0 [10, 11] κ H0 _ := hF.close hB fa_n
                have hL : OkL B0 _ := hB.2.2.2.2.2
                have hP : va_P D vwCl [(w, .inr (5, [.ref f4412_0, .int (nI ((κ w).2.2.1)), .int (nI f4412_2), .int (nI f4412_3), .int f4412_4, .int (nI f4412_5), .int f4412_6, .int f4412_7, .int f4412_8, .ref f4412_9, .int (nI f4412_10), .ref (κ w).2.2.2, .int f4412_12, .int f4412_13])), ((κ w).2.2.2, .inr (6, [.int (nI f4407_0), .int f4407_1, .int f4407_2, .null, .ref f4407_4, .ref f4407_5, .ref f4407_6, .ref f4407_7])), (q4413, .inr (0, [.null, .null]))] _ := hB.1
                refine ci_v (As := [.ref f4412_9, .int (nI f4412_10)]) (rest := [.ref q4413, .ref (κ w).2.2.2]) (b := q4413) ⟨hx, hb, hml, hown, hts⟩ (c_X0_init hT (w := q4413) hfq4413 hbq4413 (hP 2 _ rfl) (v := f4412_9) t4412_9 (n := f4412_10) (by first | omega | decide | assumption)) (cwI 2 hts gX5_readStatement_X0_init rfl rfl rfl (hts _ mX5_readStatement_4) (hts _ mX5_readStatement_156) (hts _ mX5_readStatement_157) rfl hdX0_init_o ⟨Nat.le_of_ble_eq_true rfl, Nat.le_of_ble_eq_true rfl⟩) hN hE hL rfl rfl hl.1 (Nat.le_of_ble_eq_true rfl) dX5_readStatement_125 (show 1 + 2 ≤ 3 by omega) (show (0 + 2) + 616 ≤ 618 by omega) (fun H1 locs hL hqr4414 => ?_)
                obtain ⟨κr4414, hxr4414, hT1, hF1, hqr4414⟩ := hqr4414
                have hF := hF.tr (hF1.mono (by simp))
                have hT := hT1
                have hKF : KF κ κr4414 := hxr4414.f
                have hKX : KX κ κr4414 := hxr4414
                have hw := (hxr4414.f.t2 hw (by decide))
                have hsu := (hxr4414.f.t2 hsu (by decide))
                have hq4413 := hqr4414
                obtain ⟨hb4415, e4415, hat4415, hk4415⟩ := hT.o7 hsu.1
                obtain ⟨f4415_0, f4415_1, f4415_2, f4415_3, f4415_4, f4415_5, f4415_6, f4415_7, rfl, c4415_0, c4415_3, c4415_mg, t4415_4, t4415_5, t4415_6, t4415_7⟩ := hk4415
                rw [hsu.2] at t4415_4
                rw [hsu.2] at t4415_5
                rw [hsu.2] at t4415_6
                rw [hsu.2] at t4415_7
                have hP : va_P D vwCl [((κ w).2.2.2, .inr (6, [.int (nI f4415_0), .int f4415_1, .int f4415_2, f4415_3, .ref f4415_4, .ref f4415_5, .ref f4415_6, .ref f4415_7]))] _ := va_P.cons hat4415 va_P.nil
                have hB : Bx B0 D _ [((κ w).2.2.2, .inr (6, [.int (nI f4415_0), .int f4415_1, .int f4415_2, f4415_3, .ref f4415_4, .ref f4415_5, .ref f4415_6, .ref f4415_7]))] [] _ _ := Bx.of (fun a => (κr4414 a).1) hL hP (fa_c hb4415 fa_n) (by simp only [List.map_cons, List.map_nil, hsu.1]; decide)
                refine b_putN (D := D) (ci := 6) (v := .ref q4413) (ty := .object "OneBeat$Formula") (C := RX6) (T := TX6) (N := 8) hx hb hts iX5_readStatement_6 tyX6 tyX6_ok nmX6 hown hN hB 0 rfl rfl 3 (by decide) (hN.f 44 rfl) (fun _ h9 => h9) rfl (by decide +kernel) rfl rfl (Nat.le_of_ble_eq_true rfl) (.inl rfl) dX5_readStatement_128 (fun H locs hB => ?_)
                have hB : Bx B0 D _ [((κ w).2.2.2, .inr (6, [.int (nI f4415_0), .int f4415_1, .int f4415_2, .ref q4413, .ref f4415_4, .ref f4415_5, .ref f4415_6, .ref f4415_7]))] [(κ w).2.2.2] _ _ := hB
                refine lv_iconst (v := 1) hx hb dX5_readStatement_131 (by decide) ?_
                have hF : Fr B0 [10, 11] κ H0 _ := hF.closeN hB (fa_c (fun h9 => by rw [← (hKF _ h9).2, hsu.2]; simp) fa_n)
                have hT : WT B0 D cs T (kp κr4414 (κ w).2.2.2 1 0) _ := hT.closeK (κ w).2.2.2 1 0 hB (by rw [hsu.1]; decide) (by rw [hsu.1]; decide) (List.mem_of_getElem? (i := 0) rfl) ⟨⟨0, _, rfl, kp_ok (ok_7 (k := ((κr4414 (κ w).2.2.2).1, (κr4414 (κ w).2.2.2).2.1, _, _)) hsu.1 ⟨_, _, _, _, _, _, _, _, rfl, (by omega), (Or.inr ⟨_, rfl, (t2kp hq4413)⟩), (Or.inr ⟨_, rfl⟩), ⟨(t2kp t4415_4).1, by rw [hsu.2]; exact (t2kp t4415_4).2⟩, ⟨(t2kp t4415_5).1, by rw [hsu.2]; exact (t2kp t4415_5).2⟩, ⟨(t2kp t4415_6).1, by rw [hsu.2]; exact (t2kp t4415_6).2⟩, ⟨(t2kp t4415_7).1, by rw [hsu.2]; exact (t2kp t4415_7).2⟩⟩)⟩, trivial⟩
                have hL : OkL B0 _ := hB.2.2.2.2.2
                have hsu := t2kp (x := 1) (y := 0) (a := (κ w).2.2.2) hsu
                refine W.know (fun hg => ?_)
                rw [hH0] at hg
                exact en_i hx hb hr hlocks hL rfl (show 3 ≤ 3 by omega) (show ((0 + 2) + 616) ≤ 618 by omega) dX5_readStatement_132 (⟨_, (fun a h1 h2 => (kp_n h2).trans (hKX a h1)), hT, hF, hsu, Or.inr ⟨hmg1, by rw [kp_a], hg.mono (by omega) (by omega)⟩, Or.inr rfl⟩)
            · refine va_getN (D := D) (ci := 6) (v := .ref a4408) (C := RX6) (T := TX6) (N := 8) hx hb hts iX5_readStatement_6 hown hN.1 hP 0 rfl rfl 3 (by decide) (hN.f 44 rfl) (fun _ h9 => h9) rfl dX5_readStatement_89 ?_
              refine lv_ifnonnull (tgt := 133) hx hb dX5_readStatement_92 (by decide) ?_
              refine lv_aload_n hx hb dX5_readStatement_133 rfl (lv_at hl 0 rfl) ?_
              refine lv_bipush (v := (-2)) hx hb dX5_readStatement_134 (by decide) ?_
              refine lv_aload_n hx hb dX5_readStatement_136 rfl (lv_at hl 0 rfl) ?_
              refine va_get (D := D) (ci := 5) (v := .int (nI f4406_5)) (C := RX5) (T := TX5) (N := 14) hx hb hts iX5_readStatement_5 hown hN.1 hP 1 rfl rfl 5 (by decide) (hts _ mX5_readStatement_7) (fun _ h9 => h9) rfl dX5_readStatement_137 ?_
              refine cv_i (As := [.int (-2), .int (nI f4406_5)]) (rest := []) (b := w) ⟨hx, hb, hml, hown, hts⟩ (c_X5_fail hT (w := w) hw (x := (-2)) (y := (nI f4406_5))) (cwV 2 hts gX5_readStatement_X5_fail rfl rfl rfl hdX5_fail_v ⟨Nat.le_of_ble_eq_true rfl, Nat.le_of_ble_eq_true rfl⟩) hN hE hL (rcv6 hN hT hw.1) rfl rfl hl.1 (Nat.le_of_ble_eq_true rfl) dX5_readStatement_140 (Nat.zero_le _) (Nat.zero_le _) (fun r4416 H1 locs hL hqr4416 => ?_)
              obtain ⟨hT1, hF1, hqr4416⟩ := hqr4416
              have hP : va_P D vwCl [((κ w).2.2.2, .inr (6, [.int (nI f4407_0), .int f4407_1, .int f4407_2, .ref a4408, .ref f4407_4, .ref f4407_5, .ref f4407_6, .ref f4407_7]))] _ := hF1.hP (hP.sub [0] rfl) (fa_c ⟨by rw [hsu.1]; decide, by rw [hsu.2]; first | decide | (simp; done) | (simp; omega)⟩ fa_n)
              have hF := hF.tr (hF1.mono (by simp))
              have hT := hT1
              obtain rfl := hqr4416
              refine W.know (fun hg => ?_)
              rw [hH0] at hg
              exact en_i hx hb hr hlocks hL rfl (Nat.zero_le _) (Nat.zero_le _) dX5_readStatement_143 (⟨_, (fun _ _ _ => rfl), hT, hF, hsu, Or.inl ⟨rfl, hg⟩, Or.inl rfl⟩)
        · refine lv_if_eq (tgt := 76) hx hb dX5_readStatement_58 (by decide) (fun c9 => absurd c9 (by decide)) (fun _ => ?_)
          refine lv_aload_n hx hb dX5_readStatement_61 rfl (lv_at hl 0 rfl) ?_
          obtain ⟨hb4417, e4417, hat4417, hk4417⟩ := hT.o6 hw.1
          obtain ⟨f4417_0, f4417_2, f4417_3, f4417_4, f4417_5, f4417_6, f4417_7, f4417_8, f4417_9, f4417_10, f4417_11, f4417_12, f4417_13, rfl, c4417_1, c4417_2, c4417_3, c4417_5, c4417_10, t4417_0, t4417_9, c4417_11, c4417_p2⟩ := hk4417
          obtain rfl : f4417_11 = .ref (κ w).2.2.2 := c4417_p2.resolve_left hs0
          have hP : va_P D vwCl [(w, .inr (5, [.ref f4417_0, .int (nI ((κ w).2.2.1)), .int (nI f4417_2), .int (nI f4417_3), .int f4417_4, .int (nI f4417_5), .int f4417_6, .int f4417_7, .int f4417_8, .ref f4417_9, .int (nI f4417_10), .ref (κ w).2.2.2, .int f4417_12, .int f4417_13]))] _ := va_P.cons hat4417 va_P.nil
          refine va_get (D := D) (ci := 5) (v := .ref (κ w).2.2.2) (C := RX5) (T := TX5) (N := 14) hx hb hts iX5_readStatement_5 hown hN.1 hP 0 rfl rfl 11 (by decide) (hts _ mX5_readStatement_1) (fun _ h9 => h9) rfl dX5_readStatement_62 ?_
          obtain ⟨hb4418, e4418, hat4418, hk4418⟩ := hT.o7 hsu.1
          obtain ⟨f4418_0, f4418_1, f4418_2, f4418_3, f4418_4, f4418_5, f4418_6, f4418_7, rfl, c4418_0, c4418_3, c4418_mg, t4418_4, t4418_5, t4418_6, t4418_7⟩ := hk4418
          rw [hsu.2] at t4418_4
          rw [hsu.2] at t4418_5
          rw [hsu.2] at t4418_6
          rw [hsu.2] at t4418_7
          have hP : va_P D vwCl [((κ w).2.2.2, .inr (6, [.int (nI f4418_0), .int f4418_1, .int f4418_2, f4418_3, .ref f4418_4, .ref f4418_5, .ref f4418_6, .ref f4418_7])), (w, .inr (5, [.ref f4417_0, .int (nI ((κ w).2.2.1)), .int (nI f4417_2), .int (nI f4417_3), .int f4417_4, .int (nI f4417_5), .int f4417_6, .int f4417_7, .int f4417_8, .ref f4417_9, .int (nI f4417_10), .ref (κ w).2.2.2, .int f4417_12, .int f4417_13]))] _ := va_P.cons hat4418 hP
          refine va_getN (D := D) (ci := 6) (v := .int f4418_2) (C := RX6) (T := TX6) (N := 8) hx hb hts iX5_readStatement_6 hown hN.1 hP 0 rfl rfl 2 (by decide) (hN.f 42 rfl) (fun _ h9 => h9) rfl dX5_readStatement_65 ?_
          refine lv_if_ne (tgt := 76) hx hb dX5_readStatement_68 (by decide) (fun c4419 => ?_) (fun c4419 => ?_)
          · refine lv_aload_n hx hb dX5_readStatement_76 rfl (lv_at hl 0 rfl) ?_
            refine va_ldcS hx hb hown (hN.s 6 rfl) dX5_readStatement_77 ?_
            refine cv_i (As := [.ref (cs 106)]) (rest := []) (b := w) ⟨hx, hb, hml, hown, hts⟩ (c_X5_isWord hT (w := w) hw (i := 6) (by decide)) (cwV 1 hts gX5_readStatement_X5_isWord rfl rfl rfl hdX5_isWord_v ⟨Nat.le_of_ble_eq_true rfl, Nat.le_of_ble_eq_true rfl⟩) hN hE hL (rcv6 hN hT hw.1) rfl rfl hl.1 (Nat.le_of_ble_eq_true rfl) dX5_readStatement_79 (Nat.zero_le _) (Nat.zero_le _) (fun r4420 H1 locs hL hqr4420 => ?_)
            obtain ⟨h9, hqr4420⟩ := hqr4420; replace h9 := h9.symm; subst h9
            rcases hqr4420 with rfl | rfl
            · refine lv_if_eq (tgt := 133) hx hb dX5_readStatement_82 (by decide) (fun _ => ?_) (fun c9 => absurd (by decide) c9)
              refine lv_aload_n hx hb dX5_readStatement_133 rfl (lv_at hl 0 rfl) ?_
              refine lv_bipush (v := (-2)) hx hb dX5_readStatement_134 (by decide) ?_
              refine lv_aload_n hx hb dX5_readStatement_136 rfl (lv_at hl 0 rfl) ?_
              refine va_get (D := D) (ci := 5) (v := .int (nI f4417_5)) (C := RX5) (T := TX5) (N := 14) hx hb hts iX5_readStatement_5 hown hN.1 hP 1 rfl rfl 5 (by decide) (hts _ mX5_readStatement_7) (fun _ h9 => h9) rfl dX5_readStatement_137 ?_
              refine cv_i (As := [.int (-2), .int (nI f4417_5)]) (rest := []) (b := w) ⟨hx, hb, hml, hown, hts⟩ (c_X5_fail hT (w := w) hw (x := (-2)) (y := (nI f4417_5))) (cwV 2 hts gX5_readStatement_X5_fail rfl rfl rfl hdX5_fail_v ⟨Nat.le_of_ble_eq_true rfl, Nat.le_of_ble_eq_true rfl⟩) hN hE hL (rcv6 hN hT hw.1) rfl rfl hl.1 (Nat.le_of_ble_eq_true rfl) dX5_readStatement_140 (Nat.zero_le _) (Nat.zero_le _) (fun r4421 H1 locs hL hqr4421 => ?_)
              obtain ⟨hT1, hF1, hqr4421⟩ := hqr4421
              have hP : va_P D vwCl [((κ w).2.2.2, .inr (6, [.int (nI f4418_0), .int f4418_1, .int f4418_2, f4418_3, .ref f4418_4, .ref f4418_5, .ref f4418_6, .ref f4418_7]))] _ := hF1.hP (hP.sub [0] rfl) (fa_c ⟨by rw [hsu.1]; decide, by rw [hsu.2]; first | decide | (simp; done) | (simp; omega)⟩ fa_n)
              have hF := hF.tr (hF1.mono (by simp))
              have hT := hT1
              obtain rfl := hqr4421
              refine W.know (fun hg => ?_)
              rw [hH0] at hg
              exact en_i hx hb hr hlocks hL rfl (Nat.zero_le _) (Nat.zero_le _) dX5_readStatement_143 (⟨_, (fun _ _ _ => rfl), hT, hF, hsu, Or.inl ⟨rfl, hg⟩, Or.inl rfl⟩)
            · refine lv_if_eq (tgt := 133) hx hb dX5_readStatement_82 (by decide) (fun c9 => absurd c9 (by decide)) (fun _ => ?_)
              refine lv_aload_n hx hb dX5_readStatement_85 rfl (lv_at hl 0 rfl) ?_
              refine va_get (D := D) (ci := 5) (v := .ref (κ w).2.2.2) (C := RX5) (T := TX5) (N := 14) hx hb hts iX5_readStatement_5 hown hN.1 hP 1 rfl rfl 11 (by decide) (hts _ mX5_readStatement_1) (fun _ h9 => h9) rfl dX5_readStatement_86 ?_
              rcases c4418_3 with rfl | ⟨a4422, rfl, ta4422⟩
              · refine va_getN (D := D) (ci := 6) (v := .null) (C := RX6) (T := TX6) (N := 8) hx hb hts iX5_readStatement_6 hown hN.1 hP 0 rfl rfl 3 (by decide) (hN.f 44 rfl) (fun _ h9 => h9) rfl dX5_readStatement_89 ?_
                refine lv_ifnonnullN hx hb dX5_readStatement_92 ?_
                have hmg1 : (κ (κ w).2.2.2).2.2.1 ≠ 1 := (c4418_mg).resolve_right (by rintro ⟨_, h9⟩; cases h9)
                refine lv_aload_n hx hb dX5_readStatement_95 rfl (lv_at hl 0 rfl) ?_
                refine cv_v (As := []) (rest := []) (b := w) ⟨hx, hb, hml, hown, hts⟩ (c_X5_step hT (w := w) hw) (cwV 0 hts gX5_readStatement_X5_step rfl rfl rfl hdX5_step_v ⟨Nat.le_of_ble_eq_true rfl, Nat.le_of_ble_eq_true rfl⟩) hN hE hL (rcv6 hN hT hw.1) rfl rfl hl.1 (Nat.le_of_ble_eq_true rfl) dX5_readStatement_96 (Nat.zero_le _) (Nat.zero_le _) (fun H1 locs hL hqr4423 => ?_)
                obtain ⟨hT1, hF1, hqr4423⟩ := hqr4423
                have hP : va_P D vwCl [((κ w).2.2.2, .inr (6, [.int (nI f4418_0), .int f4418_1, .int f4418_2, .null, .ref f4418_4, .ref f4418_5, .ref f4418_6, .ref f4418_7]))] _ := hF1.hP (hP.sub [0] rfl) (fa_c ⟨by rw [hsu.1]; decide, by rw [hsu.2]; first | decide | (simp; done) | (simp; omega)⟩ fa_n)
                have hF := hF.tr (hF1.mono (by simp))
                have hT := hT1
                have f4424 := hqr4423
                refine lv_aload_n hx hb dX5_readStatement_99 rfl (lv_at hl 0 rfl) ?_
                refine lv_iconst (v := 0) hx hb dX5_readStatement_100 (by decide) ?_
                refine cv_i (As := [.int 0]) (rest := []) (b := w) ⟨hx, hb, hml, hown, hts⟩ (c_X5_readSum_d0 hT (w := w) hw) (cwV 1 hts gX5_readStatement_X5_readSum rfl rfl rfl hdX5_readSum_v ⟨Nat.le_of_ble_eq_true rfl, Nat.le_of_ble_eq_true rfl⟩) hN hE hL (rcv6 hN hT hw.1) rfl rfl hl.1 (Nat.le_of_ble_eq_true rfl) dX5_readStatement_101 (Nat.zero_le _) (Nat.zero_le _) (fun r4425 H1 locs hL hqr4425 => ?_)
                obtain ⟨hT1, hF1, hqr4425⟩ := hqr4425
                have hP : va_P D vwCl [((κ w).2.2.2, .inr (6, [.int (nI f4418_0), .int f4418_1, .int f4418_2, .null, .ref f4418_4, .ref f4418_5, .ref f4418_6, .ref f4418_7]))] _ := hF1.hP (hP.sub [0] rfl) (fa_c ⟨by rw [hsu.1]; decide, by rw [hsu.2]; first | decide | (simp; done) | (simp; omega)⟩ fa_n)
                have hF := hF.tr (hF1.mono (by simp))
                have hT := hT1
                rcases hqr4425 with rfl | rfl
                · refine lv_if_ne (tgt := 109) hx hb dX5_readStatement_104 (by decide) (fun c9 => absurd (by decide) c9) (fun _ => ?_)
                  refine lv_iconst (v := 0) hx hb dX5_readStatement_107 (by decide) ?_
                  refine W.know (fun hg => ?_)
                  rw [hH0] at hg
                  exact en_i hx hb hr hlocks hL rfl (Nat.zero_le _) (Nat.zero_le _) dX5_readStatement_108 (⟨_, (fun _ _ _ => rfl), hT, hF, hsu, Or.inl ⟨rfl, hg⟩, Or.inl rfl⟩)
                · refine lv_if_ne (tgt := 109) hx hb dX5_readStatement_104 (by decide) (fun _ => ?_) (fun c9 => absurd c9 (by decide))
                  refine lv_aload_n hx hb dX5_readStatement_109 rfl (lv_at hl 0 rfl) ?_
                  obtain ⟨hb4426, e4426, hat4426, hk4426⟩ := hT.o6 hw.1
                  obtain ⟨f4426_0, f4426_2, f4426_3, f4426_4, f4426_5, f4426_6, f4426_7, f4426_8, f4426_9, f4426_10, f4426_11, f4426_12, f4426_13, rfl, c4426_1, c4426_2, c4426_3, c4426_5, c4426_10, t4426_0, t4426_9, c4426_11, c4426_p2⟩ := hk4426
                  obtain rfl : f4426_11 = .ref (κ w).2.2.2 := c4426_p2.resolve_left hs0
                  have hP : va_P D vwCl [(w, .inr (5, [.ref f4426_0, .int (nI ((κ w).2.2.1)), .int (nI f4426_2), .int (nI f4426_3), .int f4426_4, .int (nI f4426_5), .int f4426_6, .int f4426_7, .int f4426_8, .ref f4426_9, .int (nI f4426_10), .ref (κ w).2.2.2, .int f4426_12, .int f4426_13])), ((κ w).2.2.2, .inr (6, [.int (nI f4418_0), .int f4418_1, .int f4418_2, .null, .ref f4418_4, .ref f4418_5, .ref f4418_6, .ref f4418_7]))] _ := va_P.cons hat4426 hP
                  refine va_get (D := D) (ci := 5) (v := .ref (κ w).2.2.2) (C := RX5) (T := TX5) (N := 14) hx hb hts iX5_readStatement_5 hown hN.1 hP 0 rfl rfl 11 (by decide) (hts _ mX5_readStatement_1) (fun _ h9 => h9) rfl dX5_readStatement_110 ?_
                  have hb0 : B0 ≤ _ := hT.b0 hw (by decide)
                  have hB : Bx B0 D _ [(w, .inr (5, [.ref f4426_0, .int (nI ((κ w).2.2.1)), .int (nI f4426_2), .int (nI f4426_3), .int f4426_4, .int (nI f4426_5), .int f4426_6, .int f4426_7, .int f4426_8, .ref f4426_9, .int (nI f4426_10), .ref (κ w).2.2.2, .int f4426_12, .int f4426_13])), ((κ w).2.2.2, .inr (6, [.int (nI f4418_0), .int f4418_1, .int f4418_2, .null, .ref f4418_4, .ref f4418_5, .ref f4418_6, .ref f4418_7]))] [] _ _ := Bx.of (fun a => (κ a).1) hL hP (fa_c hb4426 (fa_c hb4418 fa_n)) (by simp only [List.map_cons, List.map_nil, hw.1, hsu.1]; decide)
                  refine nw_o (ci := 0) (fs := [.null, .null]) (C := RX0) (T := TX0) (N := 2) hx hb hts iX5_readStatement_0 tyX0 tyX0_ok hown (hts _ mX5_readStatement_2) (hts _ mX5_readStatement_3) (hts _ mX5_readStatement_4) hN rfl dfl0 (show 0 + 1 ≤ 3 by omega) (show 0 + 2 ≤ 618 by omega) dX5_readStatement_113 (fun q4427 H heq4427 hzq4427 hoq4427 hatq4427 => ?_)
                  have hgeq4427 : _ ≤ q4427 := Nat.le_trans hB.2.2.1 (Nat.le_of_eq heq4427.symm)
                  have hbq4427 : B0 ≤ q4427 := Nat.le_trans hb0 hgeq4427
                  have hfq4427 : (κ q4427).1 = 0 := hT.fresh hgeq4427
                  have hB := hB.nw heq4427 hzq4427 hoq4427 hatq4427 hb0
                  have hB : Bx B0 D _ [(w, .inr (5, [.ref f4426_0, .int (nI ((κ w).2.2.1)), .int (nI f4426_2), .int (nI f4426_3), .int f4426_4, .int (nI f4426_5), .int f4426_6, .int f4426_7, .int f4426_8, .ref f4426_9, .int (nI f4426_10), .ref (κ w).2.2.2, .int f4426_12, .int f4426_13])), ((κ w).2.2.2, .inr (6, [.int (nI f4418_0), .int f4418_1, .int f4418_2, .null, .ref f4418_4, .ref f4418_5, .ref f4418_6, .ref f4418_7])), (q4427, .inr (0, [.null, .null]))] [] _ _ := hB
                  refine lv_dup hx hb dX5_readStatement_116 rfl ?_
                  refine lv_aload_n hx hb dX5_readStatement_117 rfl (lv_at hl 0 rfl) ?_
                  refine va_get (D := D) (ci := 5) (v := .ref f4426_9) (C := RX5) (T := TX5) (N := 14) hx hb hts iX5_readStatement_5 hown hN.1 hB.1 0 rfl rfl 9 (by decide) (hts _ mX5_readStatement_5) (fun _ h9 => h9) rfl dX5_readStatement_118 ?_
                  refine lv_aload_n hx hb dX5_readStatement_121 rfl (lv_at hl 0 rfl) ?_
                  refine va_get (D := D) (ci := 5) (v := .int (nI f4426_10)) (C := RX5) (T := TX5) (N := 14) hx hb hts iX5_readStatement_5 hown hN.1 hB.1 0 rfl rfl 10 (by decide) (hts _ mX5_readStatement_6) (fun _ h9 => h9) rfl dX5_readStatement_122 ?_
                  have hT : WT B0 D cs T κ _ := hT.close hB trivial
                  have hF : Fr B0 [10, 11] κ H0 _ := hF.close hB fa_n
                  have hL : OkL B0 _ := hB.2.2.2.2.2
                  have hP : va_P D vwCl [(w, .inr (5, [.ref f4426_0, .int (nI ((κ w).2.2.1)), .int (nI f4426_2), .int (nI f4426_3), .int f4426_4, .int (nI f4426_5), .int f4426_6, .int f4426_7, .int f4426_8, .ref f4426_9, .int (nI f4426_10), .ref (κ w).2.2.2, .int f4426_12, .int f4426_13])), ((κ w).2.2.2, .inr (6, [.int (nI f4418_0), .int f4418_1, .int f4418_2, .null, .ref f4418_4, .ref f4418_5, .ref f4418_6, .ref f4418_7])), (q4427, .inr (0, [.null, .null]))] _ := hB.1
                  refine ci_v (As := [.ref f4426_9, .int (nI f4426_10)]) (rest := [.ref q4427, .ref (κ w).2.2.2]) (b := q4427) ⟨hx, hb, hml, hown, hts⟩ (c_X0_init hT (w := q4427) hfq4427 hbq4427 (hP 2 _ rfl) (v := f4426_9) t4426_9 (n := f4426_10) (by first | omega | decide | assumption)) (cwI 2 hts gX5_readStatement_X0_init rfl rfl rfl (hts _ mX5_readStatement_4) (hts _ mX5_readStatement_156) (hts _ mX5_readStatement_157) rfl hdX0_init_o ⟨Nat.le_of_ble_eq_true rfl, Nat.le_of_ble_eq_true rfl⟩) hN hE hL rfl rfl hl.1 (Nat.le_of_ble_eq_true rfl) dX5_readStatement_125 (show 1 + 2 ≤ 3 by omega) (show (0 + 2) + 616 ≤ 618 by omega) (fun H1 locs hL hqr4428 => ?_)
                  obtain ⟨κr4428, hxr4428, hT1, hF1, hqr4428⟩ := hqr4428
                  have hF := hF.tr (hF1.mono (by simp))
                  have hT := hT1
                  have hKF : KF κ κr4428 := hxr4428.f
                  have hKX : KX κ κr4428 := hxr4428
                  have hw := (hxr4428.f.t2 hw (by decide))
                  have hsu := (hxr4428.f.t2 hsu (by decide))
                  have hq4427 := hqr4428
                  obtain ⟨hb4429, e4429, hat4429, hk4429⟩ := hT.o7 hsu.1
                  obtain ⟨f4429_0, f4429_1, f4429_2, f4429_3, f4429_4, f4429_5, f4429_6, f4429_7, rfl, c4429_0, c4429_3, c4429_mg, t4429_4, t4429_5, t4429_6, t4429_7⟩ := hk4429
                  rw [hsu.2] at t4429_4
                  rw [hsu.2] at t4429_5
                  rw [hsu.2] at t4429_6
                  rw [hsu.2] at t4429_7
                  have hP : va_P D vwCl [((κ w).2.2.2, .inr (6, [.int (nI f4429_0), .int f4429_1, .int f4429_2, f4429_3, .ref f4429_4, .ref f4429_5, .ref f4429_6, .ref f4429_7]))] _ := va_P.cons hat4429 va_P.nil
                  have hB : Bx B0 D _ [((κ w).2.2.2, .inr (6, [.int (nI f4429_0), .int f4429_1, .int f4429_2, f4429_3, .ref f4429_4, .ref f4429_5, .ref f4429_6, .ref f4429_7]))] [] _ _ := Bx.of (fun a => (κr4428 a).1) hL hP (fa_c hb4429 fa_n) (by simp only [List.map_cons, List.map_nil, hsu.1]; decide)
                  refine b_putN (D := D) (ci := 6) (v := .ref q4427) (ty := .object "OneBeat$Formula") (C := RX6) (T := TX6) (N := 8) hx hb hts iX5_readStatement_6 tyX6 tyX6_ok nmX6 hown hN hB 0 rfl rfl 3 (by decide) (hN.f 44 rfl) (fun _ h9 => h9) rfl (by decide +kernel) rfl rfl (Nat.le_of_ble_eq_true rfl) (.inl rfl) dX5_readStatement_128 (fun H locs hB => ?_)
                  have hB : Bx B0 D _ [((κ w).2.2.2, .inr (6, [.int (nI f4429_0), .int f4429_1, .int f4429_2, .ref q4427, .ref f4429_4, .ref f4429_5, .ref f4429_6, .ref f4429_7]))] [(κ w).2.2.2] _ _ := hB
                  refine lv_iconst (v := 1) hx hb dX5_readStatement_131 (by decide) ?_
                  have hF : Fr B0 [10, 11] κ H0 _ := hF.closeN hB (fa_c (fun h9 => by rw [← (hKF _ h9).2, hsu.2]; simp) fa_n)
                  have hT : WT B0 D cs T (kp κr4428 (κ w).2.2.2 1 0) _ := hT.closeK (κ w).2.2.2 1 0 hB (by rw [hsu.1]; decide) (by rw [hsu.1]; decide) (List.mem_of_getElem? (i := 0) rfl) ⟨⟨0, _, rfl, kp_ok (ok_7 (k := ((κr4428 (κ w).2.2.2).1, (κr4428 (κ w).2.2.2).2.1, _, _)) hsu.1 ⟨_, _, _, _, _, _, _, _, rfl, (by omega), (Or.inr ⟨_, rfl, (t2kp hq4427)⟩), (Or.inr ⟨_, rfl⟩), ⟨(t2kp t4429_4).1, by rw [hsu.2]; exact (t2kp t4429_4).2⟩, ⟨(t2kp t4429_5).1, by rw [hsu.2]; exact (t2kp t4429_5).2⟩, ⟨(t2kp t4429_6).1, by rw [hsu.2]; exact (t2kp t4429_6).2⟩, ⟨(t2kp t4429_7).1, by rw [hsu.2]; exact (t2kp t4429_7).2⟩⟩)⟩, trivial⟩
                  have hL : OkL B0 _ := hB.2.2.2.2.2
                  have hsu := t2kp (x := 1) (y := 0) (a := (κ w).2.2.2) hsu
                  refine W.know (fun hg => ?_)
                  rw [hH0] at hg
                  exact en_i hx hb hr hlocks hL rfl (show 3 ≤ 3 by omega) (show ((0 + 2) + 616) ≤ 618 by omega) dX5_readStatement_132 (⟨_, (fun a h1 h2 => (kp_n h2).trans (hKX a h1)), hT, hF, hsu, Or.inr ⟨hmg1, by rw [kp_a], hg.mono (by omega) (by omega)⟩, Or.inr rfl⟩)
              · refine va_getN (D := D) (ci := 6) (v := .ref a4422) (C := RX6) (T := TX6) (N := 8) hx hb hts iX5_readStatement_6 hown hN.1 hP 0 rfl rfl 3 (by decide) (hN.f 44 rfl) (fun _ h9 => h9) rfl dX5_readStatement_89 ?_
                refine lv_ifnonnull (tgt := 133) hx hb dX5_readStatement_92 (by decide) ?_
                refine lv_aload_n hx hb dX5_readStatement_133 rfl (lv_at hl 0 rfl) ?_
                refine lv_bipush (v := (-2)) hx hb dX5_readStatement_134 (by decide) ?_
                refine lv_aload_n hx hb dX5_readStatement_136 rfl (lv_at hl 0 rfl) ?_
                refine va_get (D := D) (ci := 5) (v := .int (nI f4417_5)) (C := RX5) (T := TX5) (N := 14) hx hb hts iX5_readStatement_5 hown hN.1 hP 1 rfl rfl 5 (by decide) (hts _ mX5_readStatement_7) (fun _ h9 => h9) rfl dX5_readStatement_137 ?_
                refine cv_i (As := [.int (-2), .int (nI f4417_5)]) (rest := []) (b := w) ⟨hx, hb, hml, hown, hts⟩ (c_X5_fail hT (w := w) hw (x := (-2)) (y := (nI f4417_5))) (cwV 2 hts gX5_readStatement_X5_fail rfl rfl rfl hdX5_fail_v ⟨Nat.le_of_ble_eq_true rfl, Nat.le_of_ble_eq_true rfl⟩) hN hE hL (rcv6 hN hT hw.1) rfl rfl hl.1 (Nat.le_of_ble_eq_true rfl) dX5_readStatement_140 (Nat.zero_le _) (Nat.zero_le _) (fun r4430 H1 locs hL hqr4430 => ?_)
                obtain ⟨hT1, hF1, hqr4430⟩ := hqr4430
                have hP : va_P D vwCl [((κ w).2.2.2, .inr (6, [.int (nI f4418_0), .int f4418_1, .int f4418_2, .ref a4422, .ref f4418_4, .ref f4418_5, .ref f4418_6, .ref f4418_7]))] _ := hF1.hP (hP.sub [0] rfl) (fa_c ⟨by rw [hsu.1]; decide, by rw [hsu.2]; first | decide | (simp; done) | (simp; omega)⟩ fa_n)
                have hF := hF.tr (hF1.mono (by simp))
                have hT := hT1
                obtain rfl := hqr4430
                refine W.know (fun hg => ?_)
                rw [hH0] at hg
                exact en_i hx hb hr hlocks hL rfl (Nat.zero_le _) (Nat.zero_le _) dX5_readStatement_143 (⟨_, (fun _ _ _ => rfl), hT, hF, hsu, Or.inl ⟨rfl, hg⟩, Or.inl rfl⟩)
          · refine lv_aload_n hx hb dX5_readStatement_71 rfl (lv_at hl 0 rfl) ?_
            refine cv_i (As := []) (rest := []) (b := w) ⟨hx, hb, hml, hown, hts⟩ (c_X5_readPatience hT (w := w) hw (by first | omega | decide | assumption) (by first | omega | decide | assumption)) (cwV 0 hts gX5_readStatement_X5_readPatience rfl rfl rfl hdX5_readPatience_v ⟨Nat.le_of_ble_eq_true rfl, Nat.le_of_ble_eq_true rfl⟩) hN hE hL (rcv6 hN hT hw.1) rfl rfl hl.1 (Nat.le_of_ble_eq_true rfl) dX5_readStatement_72 (Nat.zero_le _) (Nat.zero_le _) (fun r4431 H1 locs hL hqr4431 => ?_)
            obtain ⟨hT1, hF1, hqr4431⟩ := hqr4431
            have hF := hF.tr (hF1.mono (by simp))
            have hT := hT1
            rcases hqr4431 with rfl | rfl
            · refine W.know (fun hg => ?_)
              rw [hH0] at hg
              exact en_i hx hb hr hlocks hL rfl (Nat.zero_le _) (Nat.zero_le _) dX5_readStatement_75 (⟨_, (fun _ _ _ => rfl), hT, hF, hsu, Or.inl ⟨rfl, hg⟩, Or.inl rfl⟩)
            · refine W.know (fun hg => ?_)
              rw [hH0] at hg
              exact en_i hx hb hr hlocks hL rfl (Nat.zero_le _) (Nat.zero_le _) dX5_readStatement_75 (⟨_, (fun _ _ _ => rfl), hT, hF, hsu, Or.inl ⟨rfl, hg⟩, Or.inr rfl⟩)
      · refine lv_if_eq (tgt := 52) hx hb dX5_readStatement_34 (by decide) (fun c9 => absurd c9 (by decide)) (fun _ => ?_)
        refine lv_aload_n hx hb dX5_readStatement_37 rfl (lv_at hl 0 rfl) ?_
        obtain ⟨hb4432, e4432, hat4432, hk4432⟩ := hT.o6 hw.1
        obtain ⟨f4432_0, f4432_2, f4432_3, f4432_4, f4432_5, f4432_6, f4432_7, f4432_8, f4432_9, f4432_10, f4432_11, f4432_12, f4432_13, rfl, c4432_1, c4432_2, c4432_3, c4432_5, c4432_10, t4432_0, t4432_9, c4432_11, c4432_p2⟩ := hk4432
        obtain rfl : f4432_11 = .ref (κ w).2.2.2 := c4432_p2.resolve_left hs0
        have hP : va_P D vwCl [(w, .inr (5, [.ref f4432_0, .int (nI ((κ w).2.2.1)), .int (nI f4432_2), .int (nI f4432_3), .int f4432_4, .int (nI f4432_5), .int f4432_6, .int f4432_7, .int f4432_8, .ref f4432_9, .int (nI f4432_10), .ref (κ w).2.2.2, .int f4432_12, .int f4432_13]))] _ := va_P.cons hat4432 va_P.nil
        refine va_get (D := D) (ci := 5) (v := .ref (κ w).2.2.2) (C := RX5) (T := TX5) (N := 14) hx hb hts iX5_readStatement_5 hown hN.1 hP 0 rfl rfl 11 (by decide) (hts _ mX5_readStatement_1) (fun _ h9 => h9) rfl dX5_readStatement_38 ?_
        obtain ⟨hb4433, e4433, hat4433, hk4433⟩ := hT.o7 hsu.1
        obtain ⟨f4433_0, f4433_1, f4433_2, f4433_3, f4433_4, f4433_5, f4433_6, f4433_7, rfl, c4433_0, c4433_3, c4433_mg, t4433_4, t4433_5, t4433_6, t4433_7⟩ := hk4433
        rw [hsu.2] at t4433_4
        rw [hsu.2] at t4433_5
        rw [hsu.2] at t4433_6
        rw [hsu.2] at t4433_7
        have hP : va_P D vwCl [((κ w).2.2.2, .inr (6, [.int (nI f4433_0), .int f4433_1, .int f4433_2, f4433_3, .ref f4433_4, .ref f4433_5, .ref f4433_6, .ref f4433_7])), (w, .inr (5, [.ref f4432_0, .int (nI ((κ w).2.2.1)), .int (nI f4432_2), .int (nI f4432_3), .int f4432_4, .int (nI f4432_5), .int f4432_6, .int f4432_7, .int f4432_8, .ref f4432_9, .int (nI f4432_10), .ref (κ w).2.2.2, .int f4432_12, .int f4432_13]))] _ := va_P.cons hat4433 hP
        refine va_getN (D := D) (ci := 6) (v := .int f4433_1) (C := RX6) (T := TX6) (N := 8) hx hb hts iX5_readStatement_6 hown hN.1 hP 0 rfl rfl 1 (by decide) (hN.f 40 rfl) (fun _ h9 => h9) rfl dX5_readStatement_41 ?_
        refine lv_if_ne (tgt := 52) hx hb dX5_readStatement_44 (by decide) (fun c4434 => ?_) (fun c4434 => ?_)
        · refine lv_aload_n hx hb dX5_readStatement_52 rfl (lv_at hl 0 rfl) ?_
          refine va_ldcS hx hb hown (hN.s 5 rfl) dX5_readStatement_53 ?_
          refine cv_i (As := [.ref (cs 105)]) (rest := []) (b := w) ⟨hx, hb, hml, hown, hts⟩ (c_X5_isWord hT (w := w) hw (i := 5) (by decide)) (cwV 1 hts gX5_readStatement_X5_isWord rfl rfl rfl hdX5_isWord_v ⟨Nat.le_of_ble_eq_true rfl, Nat.le_of_ble_eq_true rfl⟩) hN hE hL (rcv6 hN hT hw.1) rfl rfl hl.1 (Nat.le_of_ble_eq_true rfl) dX5_readStatement_55 (Nat.zero_le _) (Nat.zero_le _) (fun r4435 H1 locs hL hqr4435 => ?_)
          obtain ⟨h9, hqr4435⟩ := hqr4435; replace h9 := h9.symm; subst h9
          rcases hqr4435 with rfl | rfl
          · refine lv_if_eq (tgt := 76) hx hb dX5_readStatement_58 (by decide) (fun _ => ?_) (fun c9 => absurd (by decide) c9)
            refine lv_aload_n hx hb dX5_readStatement_76 rfl (lv_at hl 0 rfl) ?_
            refine va_ldcS hx hb hown (hN.s 6 rfl) dX5_readStatement_77 ?_
            refine cv_i (As := [.ref (cs 106)]) (rest := []) (b := w) ⟨hx, hb, hml, hown, hts⟩ (c_X5_isWord hT (w := w) hw (i := 6) (by decide)) (cwV 1 hts gX5_readStatement_X5_isWord rfl rfl rfl hdX5_isWord_v ⟨Nat.le_of_ble_eq_true rfl, Nat.le_of_ble_eq_true rfl⟩) hN hE hL (rcv6 hN hT hw.1) rfl rfl hl.1 (Nat.le_of_ble_eq_true rfl) dX5_readStatement_79 (Nat.zero_le _) (Nat.zero_le _) (fun r4436 H1 locs hL hqr4436 => ?_)
            obtain ⟨h9, hqr4436⟩ := hqr4436; replace h9 := h9.symm; subst h9
            rcases hqr4436 with rfl | rfl
            · refine lv_if_eq (tgt := 133) hx hb dX5_readStatement_82 (by decide) (fun _ => ?_) (fun c9 => absurd (by decide) c9)
              refine lv_aload_n hx hb dX5_readStatement_133 rfl (lv_at hl 0 rfl) ?_
              refine lv_bipush (v := (-2)) hx hb dX5_readStatement_134 (by decide) ?_
              refine lv_aload_n hx hb dX5_readStatement_136 rfl (lv_at hl 0 rfl) ?_
              refine va_get (D := D) (ci := 5) (v := .int (nI f4432_5)) (C := RX5) (T := TX5) (N := 14) hx hb hts iX5_readStatement_5 hown hN.1 hP 1 rfl rfl 5 (by decide) (hts _ mX5_readStatement_7) (fun _ h9 => h9) rfl dX5_readStatement_137 ?_
              refine cv_i (As := [.int (-2), .int (nI f4432_5)]) (rest := []) (b := w) ⟨hx, hb, hml, hown, hts⟩ (c_X5_fail hT (w := w) hw (x := (-2)) (y := (nI f4432_5))) (cwV 2 hts gX5_readStatement_X5_fail rfl rfl rfl hdX5_fail_v ⟨Nat.le_of_ble_eq_true rfl, Nat.le_of_ble_eq_true rfl⟩) hN hE hL (rcv6 hN hT hw.1) rfl rfl hl.1 (Nat.le_of_ble_eq_true rfl) dX5_readStatement_140 (Nat.zero_le _) (Nat.zero_le _) (fun r4437 H1 locs hL hqr4437 => ?_)
              obtain ⟨hT1, hF1, hqr4437⟩ := hqr4437
              have hP : va_P D vwCl [((κ w).2.2.2, .inr (6, [.int (nI f4433_0), .int f4433_1, .int f4433_2, f4433_3, .ref f4433_4, .ref f4433_5, .ref f4433_6, .ref f4433_7]))] _ := hF1.hP (hP.sub [0] rfl) (fa_c ⟨by rw [hsu.1]; decide, by rw [hsu.2]; first | decide | (simp; done) | (simp; omega)⟩ fa_n)
              have hF := hF.tr (hF1.mono (by simp))
              have hT := hT1
              obtain rfl := hqr4437
              refine W.know (fun hg => ?_)
              rw [hH0] at hg
              exact en_i hx hb hr hlocks hL rfl (Nat.zero_le _) (Nat.zero_le _) dX5_readStatement_143 (⟨_, (fun _ _ _ => rfl), hT, hF, hsu, Or.inl ⟨rfl, hg⟩, Or.inl rfl⟩)
            · refine lv_if_eq (tgt := 133) hx hb dX5_readStatement_82 (by decide) (fun c9 => absurd c9 (by decide)) (fun _ => ?_)
              refine lv_aload_n hx hb dX5_readStatement_85 rfl (lv_at hl 0 rfl) ?_
              refine va_get (D := D) (ci := 5) (v := .ref (κ w).2.2.2) (C := RX5) (T := TX5) (N := 14) hx hb hts iX5_readStatement_5 hown hN.1 hP 1 rfl rfl 11 (by decide) (hts _ mX5_readStatement_1) (fun _ h9 => h9) rfl dX5_readStatement_86 ?_
              rcases c4433_3 with rfl | ⟨a4438, rfl, ta4438⟩
              · refine va_getN (D := D) (ci := 6) (v := .null) (C := RX6) (T := TX6) (N := 8) hx hb hts iX5_readStatement_6 hown hN.1 hP 0 rfl rfl 3 (by decide) (hN.f 44 rfl) (fun _ h9 => h9) rfl dX5_readStatement_89 ?_
                refine lv_ifnonnullN hx hb dX5_readStatement_92 ?_
                have hmg1 : (κ (κ w).2.2.2).2.2.1 ≠ 1 := (c4433_mg).resolve_right (by rintro ⟨_, h9⟩; cases h9)
                refine lv_aload_n hx hb dX5_readStatement_95 rfl (lv_at hl 0 rfl) ?_
                refine cv_v (As := []) (rest := []) (b := w) ⟨hx, hb, hml, hown, hts⟩ (c_X5_step hT (w := w) hw) (cwV 0 hts gX5_readStatement_X5_step rfl rfl rfl hdX5_step_v ⟨Nat.le_of_ble_eq_true rfl, Nat.le_of_ble_eq_true rfl⟩) hN hE hL (rcv6 hN hT hw.1) rfl rfl hl.1 (Nat.le_of_ble_eq_true rfl) dX5_readStatement_96 (Nat.zero_le _) (Nat.zero_le _) (fun H1 locs hL hqr4439 => ?_)
                obtain ⟨hT1, hF1, hqr4439⟩ := hqr4439
                have hP : va_P D vwCl [((κ w).2.2.2, .inr (6, [.int (nI f4433_0), .int f4433_1, .int f4433_2, .null, .ref f4433_4, .ref f4433_5, .ref f4433_6, .ref f4433_7]))] _ := hF1.hP (hP.sub [0] rfl) (fa_c ⟨by rw [hsu.1]; decide, by rw [hsu.2]; first | decide | (simp; done) | (simp; omega)⟩ fa_n)
                have hF := hF.tr (hF1.mono (by simp))
                have hT := hT1
                have f4440 := hqr4439
                refine lv_aload_n hx hb dX5_readStatement_99 rfl (lv_at hl 0 rfl) ?_
                refine lv_iconst (v := 0) hx hb dX5_readStatement_100 (by decide) ?_
                refine cv_i (As := [.int 0]) (rest := []) (b := w) ⟨hx, hb, hml, hown, hts⟩ (c_X5_readSum_d0 hT (w := w) hw) (cwV 1 hts gX5_readStatement_X5_readSum rfl rfl rfl hdX5_readSum_v ⟨Nat.le_of_ble_eq_true rfl, Nat.le_of_ble_eq_true rfl⟩) hN hE hL (rcv6 hN hT hw.1) rfl rfl hl.1 (Nat.le_of_ble_eq_true rfl) dX5_readStatement_101 (Nat.zero_le _) (Nat.zero_le _) (fun r4441 H1 locs hL hqr4441 => ?_)
                obtain ⟨hT1, hF1, hqr4441⟩ := hqr4441
                have hP : va_P D vwCl [((κ w).2.2.2, .inr (6, [.int (nI f4433_0), .int f4433_1, .int f4433_2, .null, .ref f4433_4, .ref f4433_5, .ref f4433_6, .ref f4433_7]))] _ := hF1.hP (hP.sub [0] rfl) (fa_c ⟨by rw [hsu.1]; decide, by rw [hsu.2]; first | decide | (simp; done) | (simp; omega)⟩ fa_n)
                have hF := hF.tr (hF1.mono (by simp))
                have hT := hT1
                rcases hqr4441 with rfl | rfl
                · refine lv_if_ne (tgt := 109) hx hb dX5_readStatement_104 (by decide) (fun c9 => absurd (by decide) c9) (fun _ => ?_)
                  refine lv_iconst (v := 0) hx hb dX5_readStatement_107 (by decide) ?_
                  refine W.know (fun hg => ?_)
                  rw [hH0] at hg
                  exact en_i hx hb hr hlocks hL rfl (Nat.zero_le _) (Nat.zero_le _) dX5_readStatement_108 (⟨_, (fun _ _ _ => rfl), hT, hF, hsu, Or.inl ⟨rfl, hg⟩, Or.inl rfl⟩)
                · refine lv_if_ne (tgt := 109) hx hb dX5_readStatement_104 (by decide) (fun _ => ?_) (fun c9 => absurd c9 (by decide))
                  refine lv_aload_n hx hb dX5_readStatement_109 rfl (lv_at hl 0 rfl) ?_
                  obtain ⟨hb4442, e4442, hat4442, hk4442⟩ := hT.o6 hw.1
                  obtain ⟨f4442_0, f4442_2, f4442_3, f4442_4, f4442_5, f4442_6, f4442_7, f4442_8, f4442_9, f4442_10, f4442_11, f4442_12, f4442_13, rfl, c4442_1, c4442_2, c4442_3, c4442_5, c4442_10, t4442_0, t4442_9, c4442_11, c4442_p2⟩ := hk4442
                  obtain rfl : f4442_11 = .ref (κ w).2.2.2 := c4442_p2.resolve_left hs0
                  have hP : va_P D vwCl [(w, .inr (5, [.ref f4442_0, .int (nI ((κ w).2.2.1)), .int (nI f4442_2), .int (nI f4442_3), .int f4442_4, .int (nI f4442_5), .int f4442_6, .int f4442_7, .int f4442_8, .ref f4442_9, .int (nI f4442_10), .ref (κ w).2.2.2, .int f4442_12, .int f4442_13])), ((κ w).2.2.2, .inr (6, [.int (nI f4433_0), .int f4433_1, .int f4433_2, .null, .ref f4433_4, .ref f4433_5, .ref f4433_6, .ref f4433_7]))] _ := va_P.cons hat4442 hP
                  refine va_get (D := D) (ci := 5) (v := .ref (κ w).2.2.2) (C := RX5) (T := TX5) (N := 14) hx hb hts iX5_readStatement_5 hown hN.1 hP 0 rfl rfl 11 (by decide) (hts _ mX5_readStatement_1) (fun _ h9 => h9) rfl dX5_readStatement_110 ?_
                  have hb0 : B0 ≤ _ := hT.b0 hw (by decide)
                  have hB : Bx B0 D _ [(w, .inr (5, [.ref f4442_0, .int (nI ((κ w).2.2.1)), .int (nI f4442_2), .int (nI f4442_3), .int f4442_4, .int (nI f4442_5), .int f4442_6, .int f4442_7, .int f4442_8, .ref f4442_9, .int (nI f4442_10), .ref (κ w).2.2.2, .int f4442_12, .int f4442_13])), ((κ w).2.2.2, .inr (6, [.int (nI f4433_0), .int f4433_1, .int f4433_2, .null, .ref f4433_4, .ref f4433_5, .ref f4433_6, .ref f4433_7]))] [] _ _ := Bx.of (fun a => (κ a).1) hL hP (fa_c hb4442 (fa_c hb4433 fa_n)) (by simp only [List.map_cons, List.map_nil, hw.1, hsu.1]; decide)
                  refine nw_o (ci := 0) (fs := [.null, .null]) (C := RX0) (T := TX0) (N := 2) hx hb hts iX5_readStatement_0 tyX0 tyX0_ok hown (hts _ mX5_readStatement_2) (hts _ mX5_readStatement_3) (hts _ mX5_readStatement_4) hN rfl dfl0 (show 0 + 1 ≤ 3 by omega) (show 0 + 2 ≤ 618 by omega) dX5_readStatement_113 (fun q4443 H heq4443 hzq4443 hoq4443 hatq4443 => ?_)
                  have hgeq4443 : _ ≤ q4443 := Nat.le_trans hB.2.2.1 (Nat.le_of_eq heq4443.symm)
                  have hbq4443 : B0 ≤ q4443 := Nat.le_trans hb0 hgeq4443
                  have hfq4443 : (κ q4443).1 = 0 := hT.fresh hgeq4443
                  have hB := hB.nw heq4443 hzq4443 hoq4443 hatq4443 hb0
                  have hB : Bx B0 D _ [(w, .inr (5, [.ref f4442_0, .int (nI ((κ w).2.2.1)), .int (nI f4442_2), .int (nI f4442_3), .int f4442_4, .int (nI f4442_5), .int f4442_6, .int f4442_7, .int f4442_8, .ref f4442_9, .int (nI f4442_10), .ref (κ w).2.2.2, .int f4442_12, .int f4442_13])), ((κ w).2.2.2, .inr (6, [.int (nI f4433_0), .int f4433_1, .int f4433_2, .null, .ref f4433_4, .ref f4433_5, .ref f4433_6, .ref f4433_7])), (q4443, .inr (0, [.null, .null]))] [] _ _ := hB
                  refine lv_dup hx hb dX5_readStatement_116 rfl ?_
                  refine lv_aload_n hx hb dX5_readStatement_117 rfl (lv_at hl 0 rfl) ?_
                  refine va_get (D := D) (ci := 5) (v := .ref f4442_9) (C := RX5) (T := TX5) (N := 14) hx hb hts iX5_readStatement_5 hown hN.1 hB.1 0 rfl rfl 9 (by decide) (hts _ mX5_readStatement_5) (fun _ h9 => h9) rfl dX5_readStatement_118 ?_
                  refine lv_aload_n hx hb dX5_readStatement_121 rfl (lv_at hl 0 rfl) ?_
                  refine va_get (D := D) (ci := 5) (v := .int (nI f4442_10)) (C := RX5) (T := TX5) (N := 14) hx hb hts iX5_readStatement_5 hown hN.1 hB.1 0 rfl rfl 10 (by decide) (hts _ mX5_readStatement_6) (fun _ h9 => h9) rfl dX5_readStatement_122 ?_
                  have hT : WT B0 D cs T κ _ := hT.close hB trivial
                  have hF : Fr B0 [10, 11] κ H0 _ := hF.close hB fa_n
                  have hL : OkL B0 _ := hB.2.2.2.2.2
                  have hP : va_P D vwCl [(w, .inr (5, [.ref f4442_0, .int (nI ((κ w).2.2.1)), .int (nI f4442_2), .int (nI f4442_3), .int f4442_4, .int (nI f4442_5), .int f4442_6, .int f4442_7, .int f4442_8, .ref f4442_9, .int (nI f4442_10), .ref (κ w).2.2.2, .int f4442_12, .int f4442_13])), ((κ w).2.2.2, .inr (6, [.int (nI f4433_0), .int f4433_1, .int f4433_2, .null, .ref f4433_4, .ref f4433_5, .ref f4433_6, .ref f4433_7])), (q4443, .inr (0, [.null, .null]))] _ := hB.1
                  refine ci_v (As := [.ref f4442_9, .int (nI f4442_10)]) (rest := [.ref q4443, .ref (κ w).2.2.2]) (b := q4443) ⟨hx, hb, hml, hown, hts⟩ (c_X0_init hT (w := q4443) hfq4443 hbq4443 (hP 2 _ rfl) (v := f4442_9) t4442_9 (n := f4442_10) (by first | omega | decide | assumption)) (cwI 2 hts gX5_readStatement_X0_init rfl rfl rfl (hts _ mX5_readStatement_4) (hts _ mX5_readStatement_156) (hts _ mX5_readStatement_157) rfl hdX0_init_o ⟨Nat.le_of_ble_eq_true rfl, Nat.le_of_ble_eq_true rfl⟩) hN hE hL rfl rfl hl.1 (Nat.le_of_ble_eq_true rfl) dX5_readStatement_125 (show 1 + 2 ≤ 3 by omega) (show (0 + 2) + 616 ≤ 618 by omega) (fun H1 locs hL hqr4444 => ?_)
                  obtain ⟨κr4444, hxr4444, hT1, hF1, hqr4444⟩ := hqr4444
                  have hF := hF.tr (hF1.mono (by simp))
                  have hT := hT1
                  have hKF : KF κ κr4444 := hxr4444.f
                  have hKX : KX κ κr4444 := hxr4444
                  have hw := (hxr4444.f.t2 hw (by decide))
                  have hsu := (hxr4444.f.t2 hsu (by decide))
                  have hq4443 := hqr4444
                  obtain ⟨hb4445, e4445, hat4445, hk4445⟩ := hT.o7 hsu.1
                  obtain ⟨f4445_0, f4445_1, f4445_2, f4445_3, f4445_4, f4445_5, f4445_6, f4445_7, rfl, c4445_0, c4445_3, c4445_mg, t4445_4, t4445_5, t4445_6, t4445_7⟩ := hk4445
                  rw [hsu.2] at t4445_4
                  rw [hsu.2] at t4445_5
                  rw [hsu.2] at t4445_6
                  rw [hsu.2] at t4445_7
                  have hP : va_P D vwCl [((κ w).2.2.2, .inr (6, [.int (nI f4445_0), .int f4445_1, .int f4445_2, f4445_3, .ref f4445_4, .ref f4445_5, .ref f4445_6, .ref f4445_7]))] _ := va_P.cons hat4445 va_P.nil
                  have hB : Bx B0 D _ [((κ w).2.2.2, .inr (6, [.int (nI f4445_0), .int f4445_1, .int f4445_2, f4445_3, .ref f4445_4, .ref f4445_5, .ref f4445_6, .ref f4445_7]))] [] _ _ := Bx.of (fun a => (κr4444 a).1) hL hP (fa_c hb4445 fa_n) (by simp only [List.map_cons, List.map_nil, hsu.1]; decide)
                  refine b_putN (D := D) (ci := 6) (v := .ref q4443) (ty := .object "OneBeat$Formula") (C := RX6) (T := TX6) (N := 8) hx hb hts iX5_readStatement_6 tyX6 tyX6_ok nmX6 hown hN hB 0 rfl rfl 3 (by decide) (hN.f 44 rfl) (fun _ h9 => h9) rfl (by decide +kernel) rfl rfl (Nat.le_of_ble_eq_true rfl) (.inl rfl) dX5_readStatement_128 (fun H locs hB => ?_)
                  have hB : Bx B0 D _ [((κ w).2.2.2, .inr (6, [.int (nI f4445_0), .int f4445_1, .int f4445_2, .ref q4443, .ref f4445_4, .ref f4445_5, .ref f4445_6, .ref f4445_7]))] [(κ w).2.2.2] _ _ := hB
                  refine lv_iconst (v := 1) hx hb dX5_readStatement_131 (by decide) ?_
                  have hF : Fr B0 [10, 11] κ H0 _ := hF.closeN hB (fa_c (fun h9 => by rw [← (hKF _ h9).2, hsu.2]; simp) fa_n)
                  have hT : WT B0 D cs T (kp κr4444 (κ w).2.2.2 1 0) _ := hT.closeK (κ w).2.2.2 1 0 hB (by rw [hsu.1]; decide) (by rw [hsu.1]; decide) (List.mem_of_getElem? (i := 0) rfl) ⟨⟨0, _, rfl, kp_ok (ok_7 (k := ((κr4444 (κ w).2.2.2).1, (κr4444 (κ w).2.2.2).2.1, _, _)) hsu.1 ⟨_, _, _, _, _, _, _, _, rfl, (by omega), (Or.inr ⟨_, rfl, (t2kp hq4443)⟩), (Or.inr ⟨_, rfl⟩), ⟨(t2kp t4445_4).1, by rw [hsu.2]; exact (t2kp t4445_4).2⟩, ⟨(t2kp t4445_5).1, by rw [hsu.2]; exact (t2kp t4445_5).2⟩, ⟨(t2kp t4445_6).1, by rw [hsu.2]; exact (t2kp t4445_6).2⟩, ⟨(t2kp t4445_7).1, by rw [hsu.2]; exact (t2kp t4445_7).2⟩⟩)⟩, trivial⟩
                  have hL : OkL B0 _ := hB.2.2.2.2.2
                  have hsu := t2kp (x := 1) (y := 0) (a := (κ w).2.2.2) hsu
                  refine W.know (fun hg => ?_)
                  rw [hH0] at hg
                  exact en_i hx hb hr hlocks hL rfl (show 3 ≤ 3 by omega) (show ((0 + 2) + 616) ≤ 618 by omega) dX5_readStatement_132 (⟨_, (fun a h1 h2 => (kp_n h2).trans (hKX a h1)), hT, hF, hsu, Or.inr ⟨hmg1, by rw [kp_a], hg.mono (by omega) (by omega)⟩, Or.inr rfl⟩)
              · refine va_getN (D := D) (ci := 6) (v := .ref a4438) (C := RX6) (T := TX6) (N := 8) hx hb hts iX5_readStatement_6 hown hN.1 hP 0 rfl rfl 3 (by decide) (hN.f 44 rfl) (fun _ h9 => h9) rfl dX5_readStatement_89 ?_
                refine lv_ifnonnull (tgt := 133) hx hb dX5_readStatement_92 (by decide) ?_
                refine lv_aload_n hx hb dX5_readStatement_133 rfl (lv_at hl 0 rfl) ?_
                refine lv_bipush (v := (-2)) hx hb dX5_readStatement_134 (by decide) ?_
                refine lv_aload_n hx hb dX5_readStatement_136 rfl (lv_at hl 0 rfl) ?_
                refine va_get (D := D) (ci := 5) (v := .int (nI f4432_5)) (C := RX5) (T := TX5) (N := 14) hx hb hts iX5_readStatement_5 hown hN.1 hP 1 rfl rfl 5 (by decide) (hts _ mX5_readStatement_7) (fun _ h9 => h9) rfl dX5_readStatement_137 ?_
                refine cv_i (As := [.int (-2), .int (nI f4432_5)]) (rest := []) (b := w) ⟨hx, hb, hml, hown, hts⟩ (c_X5_fail hT (w := w) hw (x := (-2)) (y := (nI f4432_5))) (cwV 2 hts gX5_readStatement_X5_fail rfl rfl rfl hdX5_fail_v ⟨Nat.le_of_ble_eq_true rfl, Nat.le_of_ble_eq_true rfl⟩) hN hE hL (rcv6 hN hT hw.1) rfl rfl hl.1 (Nat.le_of_ble_eq_true rfl) dX5_readStatement_140 (Nat.zero_le _) (Nat.zero_le _) (fun r4446 H1 locs hL hqr4446 => ?_)
                obtain ⟨hT1, hF1, hqr4446⟩ := hqr4446
                have hP : va_P D vwCl [((κ w).2.2.2, .inr (6, [.int (nI f4433_0), .int f4433_1, .int f4433_2, .ref a4438, .ref f4433_4, .ref f4433_5, .ref f4433_6, .ref f4433_7]))] _ := hF1.hP (hP.sub [0] rfl) (fa_c ⟨by rw [hsu.1]; decide, by rw [hsu.2]; first | decide | (simp; done) | (simp; omega)⟩ fa_n)
                have hF := hF.tr (hF1.mono (by simp))
                have hT := hT1
                obtain rfl := hqr4446
                refine W.know (fun hg => ?_)
                rw [hH0] at hg
                exact en_i hx hb hr hlocks hL rfl (Nat.zero_le _) (Nat.zero_le _) dX5_readStatement_143 (⟨_, (fun _ _ _ => rfl), hT, hF, hsu, Or.inl ⟨rfl, hg⟩, Or.inl rfl⟩)
          · refine lv_if_eq (tgt := 76) hx hb dX5_readStatement_58 (by decide) (fun c9 => absurd c9 (by decide)) (fun _ => ?_)
            refine lv_aload_n hx hb dX5_readStatement_61 rfl (lv_at hl 0 rfl) ?_
            refine va_get (D := D) (ci := 5) (v := .ref (κ w).2.2.2) (C := RX5) (T := TX5) (N := 14) hx hb hts iX5_readStatement_5 hown hN.1 hP 1 rfl rfl 11 (by decide) (hts _ mX5_readStatement_1) (fun _ h9 => h9) rfl dX5_readStatement_62 ?_
            refine va_getN (D := D) (ci := 6) (v := .int f4433_2) (C := RX6) (T := TX6) (N := 8) hx hb hts iX5_readStatement_6 hown hN.1 hP 0 rfl rfl 2 (by decide) (hN.f 42 rfl) (fun _ h9 => h9) rfl dX5_readStatement_65 ?_
            refine lv_if_ne (tgt := 76) hx hb dX5_readStatement_68 (by decide) (fun c4447 => ?_) (fun c4447 => ?_)
            · refine lv_aload_n hx hb dX5_readStatement_76 rfl (lv_at hl 0 rfl) ?_
              refine va_ldcS hx hb hown (hN.s 6 rfl) dX5_readStatement_77 ?_
              refine cv_i (As := [.ref (cs 106)]) (rest := []) (b := w) ⟨hx, hb, hml, hown, hts⟩ (c_X5_isWord hT (w := w) hw (i := 6) (by decide)) (cwV 1 hts gX5_readStatement_X5_isWord rfl rfl rfl hdX5_isWord_v ⟨Nat.le_of_ble_eq_true rfl, Nat.le_of_ble_eq_true rfl⟩) hN hE hL (rcv6 hN hT hw.1) rfl rfl hl.1 (Nat.le_of_ble_eq_true rfl) dX5_readStatement_79 (Nat.zero_le _) (Nat.zero_le _) (fun r4448 H1 locs hL hqr4448 => ?_)
              obtain ⟨h9, hqr4448⟩ := hqr4448; replace h9 := h9.symm; subst h9
              rcases hqr4448 with rfl | rfl
              · refine lv_if_eq (tgt := 133) hx hb dX5_readStatement_82 (by decide) (fun _ => ?_) (fun c9 => absurd (by decide) c9)
                refine lv_aload_n hx hb dX5_readStatement_133 rfl (lv_at hl 0 rfl) ?_
                refine lv_bipush (v := (-2)) hx hb dX5_readStatement_134 (by decide) ?_
                refine lv_aload_n hx hb dX5_readStatement_136 rfl (lv_at hl 0 rfl) ?_
                refine va_get (D := D) (ci := 5) (v := .int (nI f4432_5)) (C := RX5) (T := TX5) (N := 14) hx hb hts iX5_readStatement_5 hown hN.1 hP 1 rfl rfl 5 (by decide) (hts _ mX5_readStatement_7) (fun _ h9 => h9) rfl dX5_readStatement_137 ?_
                refine cv_i (As := [.int (-2), .int (nI f4432_5)]) (rest := []) (b := w) ⟨hx, hb, hml, hown, hts⟩ (c_X5_fail hT (w := w) hw (x := (-2)) (y := (nI f4432_5))) (cwV 2 hts gX5_readStatement_X5_fail rfl rfl rfl hdX5_fail_v ⟨Nat.le_of_ble_eq_true rfl, Nat.le_of_ble_eq_true rfl⟩) hN hE hL (rcv6 hN hT hw.1) rfl rfl hl.1 (Nat.le_of_ble_eq_true rfl) dX5_readStatement_140 (Nat.zero_le _) (Nat.zero_le _) (fun r4449 H1 locs hL hqr4449 => ?_)
                obtain ⟨hT1, hF1, hqr4449⟩ := hqr4449
                have hP : va_P D vwCl [((κ w).2.2.2, .inr (6, [.int (nI f4433_0), .int f4433_1, .int f4433_2, f4433_3, .ref f4433_4, .ref f4433_5, .ref f4433_6, .ref f4433_7]))] _ := hF1.hP (hP.sub [0] rfl) (fa_c ⟨by rw [hsu.1]; decide, by rw [hsu.2]; first | decide | (simp; done) | (simp; omega)⟩ fa_n)
                have hF := hF.tr (hF1.mono (by simp))
                have hT := hT1
                obtain rfl := hqr4449
                refine W.know (fun hg => ?_)
                rw [hH0] at hg
                exact en_i hx hb hr hlocks hL rfl (Nat.zero_le _) (Nat.zero_le _) dX5_readStatement_143 (⟨_, (fun _ _ _ => rfl), hT, hF, hsu, Or.inl ⟨rfl, hg⟩, Or.inl rfl⟩)
              · refine lv_if_eq (tgt := 133) hx hb dX5_readStatement_82 (by decide) (fun c9 => absurd c9 (by decide)) (fun _ => ?_)
                refine lv_aload_n hx hb dX5_readStatement_85 rfl (lv_at hl 0 rfl) ?_
                refine va_get (D := D) (ci := 5) (v := .ref (κ w).2.2.2) (C := RX5) (T := TX5) (N := 14) hx hb hts iX5_readStatement_5 hown hN.1 hP 1 rfl rfl 11 (by decide) (hts _ mX5_readStatement_1) (fun _ h9 => h9) rfl dX5_readStatement_86 ?_
                rcases c4433_3 with rfl | ⟨a4450, rfl, ta4450⟩
                · refine va_getN (D := D) (ci := 6) (v := .null) (C := RX6) (T := TX6) (N := 8) hx hb hts iX5_readStatement_6 hown hN.1 hP 0 rfl rfl 3 (by decide) (hN.f 44 rfl) (fun _ h9 => h9) rfl dX5_readStatement_89 ?_
                  refine lv_ifnonnullN hx hb dX5_readStatement_92 ?_
                  have hmg1 : (κ (κ w).2.2.2).2.2.1 ≠ 1 := (c4433_mg).resolve_right (by rintro ⟨_, h9⟩; cases h9)
                  refine lv_aload_n hx hb dX5_readStatement_95 rfl (lv_at hl 0 rfl) ?_
                  refine cv_v (As := []) (rest := []) (b := w) ⟨hx, hb, hml, hown, hts⟩ (c_X5_step hT (w := w) hw) (cwV 0 hts gX5_readStatement_X5_step rfl rfl rfl hdX5_step_v ⟨Nat.le_of_ble_eq_true rfl, Nat.le_of_ble_eq_true rfl⟩) hN hE hL (rcv6 hN hT hw.1) rfl rfl hl.1 (Nat.le_of_ble_eq_true rfl) dX5_readStatement_96 (Nat.zero_le _) (Nat.zero_le _) (fun H1 locs hL hqr4451 => ?_)
                  obtain ⟨hT1, hF1, hqr4451⟩ := hqr4451
                  have hP : va_P D vwCl [((κ w).2.2.2, .inr (6, [.int (nI f4433_0), .int f4433_1, .int f4433_2, .null, .ref f4433_4, .ref f4433_5, .ref f4433_6, .ref f4433_7]))] _ := hF1.hP (hP.sub [0] rfl) (fa_c ⟨by rw [hsu.1]; decide, by rw [hsu.2]; first | decide | (simp; done) | (simp; omega)⟩ fa_n)
                  have hF := hF.tr (hF1.mono (by simp))
                  have hT := hT1
                  have f4452 := hqr4451
                  refine lv_aload_n hx hb dX5_readStatement_99 rfl (lv_at hl 0 rfl) ?_
                  refine lv_iconst (v := 0) hx hb dX5_readStatement_100 (by decide) ?_
                  refine cv_i (As := [.int 0]) (rest := []) (b := w) ⟨hx, hb, hml, hown, hts⟩ (c_X5_readSum_d0 hT (w := w) hw) (cwV 1 hts gX5_readStatement_X5_readSum rfl rfl rfl hdX5_readSum_v ⟨Nat.le_of_ble_eq_true rfl, Nat.le_of_ble_eq_true rfl⟩) hN hE hL (rcv6 hN hT hw.1) rfl rfl hl.1 (Nat.le_of_ble_eq_true rfl) dX5_readStatement_101 (Nat.zero_le _) (Nat.zero_le _) (fun r4453 H1 locs hL hqr4453 => ?_)
                  obtain ⟨hT1, hF1, hqr4453⟩ := hqr4453
                  have hP : va_P D vwCl [((κ w).2.2.2, .inr (6, [.int (nI f4433_0), .int f4433_1, .int f4433_2, .null, .ref f4433_4, .ref f4433_5, .ref f4433_6, .ref f4433_7]))] _ := hF1.hP (hP.sub [0] rfl) (fa_c ⟨by rw [hsu.1]; decide, by rw [hsu.2]; first | decide | (simp; done) | (simp; omega)⟩ fa_n)
                  have hF := hF.tr (hF1.mono (by simp))
                  have hT := hT1
                  rcases hqr4453 with rfl | rfl
                  · refine lv_if_ne (tgt := 109) hx hb dX5_readStatement_104 (by decide) (fun c9 => absurd (by decide) c9) (fun _ => ?_)
                    refine lv_iconst (v := 0) hx hb dX5_readStatement_107 (by decide) ?_
                    refine W.know (fun hg => ?_)
                    rw [hH0] at hg
                    exact en_i hx hb hr hlocks hL rfl (Nat.zero_le _) (Nat.zero_le _) dX5_readStatement_108 (⟨_, (fun _ _ _ => rfl), hT, hF, hsu, Or.inl ⟨rfl, hg⟩, Or.inl rfl⟩)
                  · refine lv_if_ne (tgt := 109) hx hb dX5_readStatement_104 (by decide) (fun _ => ?_) (fun c9 => absurd c9 (by decide))
                    refine lv_aload_n hx hb dX5_readStatement_109 rfl (lv_at hl 0 rfl) ?_
                    obtain ⟨hb4454, e4454, hat4454, hk4454⟩ := hT.o6 hw.1
                    obtain ⟨f4454_0, f4454_2, f4454_3, f4454_4, f4454_5, f4454_6, f4454_7, f4454_8, f4454_9, f4454_10, f4454_11, f4454_12, f4454_13, rfl, c4454_1, c4454_2, c4454_3, c4454_5, c4454_10, t4454_0, t4454_9, c4454_11, c4454_p2⟩ := hk4454
                    obtain rfl : f4454_11 = .ref (κ w).2.2.2 := c4454_p2.resolve_left hs0
                    have hP : va_P D vwCl [(w, .inr (5, [.ref f4454_0, .int (nI ((κ w).2.2.1)), .int (nI f4454_2), .int (nI f4454_3), .int f4454_4, .int (nI f4454_5), .int f4454_6, .int f4454_7, .int f4454_8, .ref f4454_9, .int (nI f4454_10), .ref (κ w).2.2.2, .int f4454_12, .int f4454_13])), ((κ w).2.2.2, .inr (6, [.int (nI f4433_0), .int f4433_1, .int f4433_2, .null, .ref f4433_4, .ref f4433_5, .ref f4433_6, .ref f4433_7]))] _ := va_P.cons hat4454 hP
                    refine va_get (D := D) (ci := 5) (v := .ref (κ w).2.2.2) (C := RX5) (T := TX5) (N := 14) hx hb hts iX5_readStatement_5 hown hN.1 hP 0 rfl rfl 11 (by decide) (hts _ mX5_readStatement_1) (fun _ h9 => h9) rfl dX5_readStatement_110 ?_
                    have hb0 : B0 ≤ _ := hT.b0 hw (by decide)
                    have hB : Bx B0 D _ [(w, .inr (5, [.ref f4454_0, .int (nI ((κ w).2.2.1)), .int (nI f4454_2), .int (nI f4454_3), .int f4454_4, .int (nI f4454_5), .int f4454_6, .int f4454_7, .int f4454_8, .ref f4454_9, .int (nI f4454_10), .ref (κ w).2.2.2, .int f4454_12, .int f4454_13])), ((κ w).2.2.2, .inr (6, [.int (nI f4433_0), .int f4433_1, .int f4433_2, .null, .ref f4433_4, .ref f4433_5, .ref f4433_6, .ref f4433_7]))] [] _ _ := Bx.of (fun a => (κ a).1) hL hP (fa_c hb4454 (fa_c hb4433 fa_n)) (by simp only [List.map_cons, List.map_nil, hw.1, hsu.1]; decide)
                    refine nw_o (ci := 0) (fs := [.null, .null]) (C := RX0) (T := TX0) (N := 2) hx hb hts iX5_readStatement_0 tyX0 tyX0_ok hown (hts _ mX5_readStatement_2) (hts _ mX5_readStatement_3) (hts _ mX5_readStatement_4) hN rfl dfl0 (show 0 + 1 ≤ 3 by omega) (show 0 + 2 ≤ 618 by omega) dX5_readStatement_113 (fun q4455 H heq4455 hzq4455 hoq4455 hatq4455 => ?_)
                    have hgeq4455 : _ ≤ q4455 := Nat.le_trans hB.2.2.1 (Nat.le_of_eq heq4455.symm)
                    have hbq4455 : B0 ≤ q4455 := Nat.le_trans hb0 hgeq4455
                    have hfq4455 : (κ q4455).1 = 0 := hT.fresh hgeq4455
                    have hB := hB.nw heq4455 hzq4455 hoq4455 hatq4455 hb0
                    have hB : Bx B0 D _ [(w, .inr (5, [.ref f4454_0, .int (nI ((κ w).2.2.1)), .int (nI f4454_2), .int (nI f4454_3), .int f4454_4, .int (nI f4454_5), .int f4454_6, .int f4454_7, .int f4454_8, .ref f4454_9, .int (nI f4454_10), .ref (κ w).2.2.2, .int f4454_12, .int f4454_13])), ((κ w).2.2.2, .inr (6, [.int (nI f4433_0), .int f4433_1, .int f4433_2, .null, .ref f4433_4, .ref f4433_5, .ref f4433_6, .ref f4433_7])), (q4455, .inr (0, [.null, .null]))] [] _ _ := hB
                    refine lv_dup hx hb dX5_readStatement_116 rfl ?_
                    refine lv_aload_n hx hb dX5_readStatement_117 rfl (lv_at hl 0 rfl) ?_
                    refine va_get (D := D) (ci := 5) (v := .ref f4454_9) (C := RX5) (T := TX5) (N := 14) hx hb hts iX5_readStatement_5 hown hN.1 hB.1 0 rfl rfl 9 (by decide) (hts _ mX5_readStatement_5) (fun _ h9 => h9) rfl dX5_readStatement_118 ?_
                    refine lv_aload_n hx hb dX5_readStatement_121 rfl (lv_at hl 0 rfl) ?_
                    refine va_get (D := D) (ci := 5) (v := .int (nI f4454_10)) (C := RX5) (T := TX5) (N := 14) hx hb hts iX5_readStatement_5 hown hN.1 hB.1 0 rfl rfl 10 (by decide) (hts _ mX5_readStatement_6) (fun _ h9 => h9) rfl dX5_readStatement_122 ?_
                    have hT : WT B0 D cs T κ _ := hT.close hB trivial
                    have hF : Fr B0 [10, 11] κ H0 _ := hF.close hB fa_n
                    have hL : OkL B0 _ := hB.2.2.2.2.2
                    have hP : va_P D vwCl [(w, .inr (5, [.ref f4454_0, .int (nI ((κ w).2.2.1)), .int (nI f4454_2), .int (nI f4454_3), .int f4454_4, .int (nI f4454_5), .int f4454_6, .int f4454_7, .int f4454_8, .ref f4454_9, .int (nI f4454_10), .ref (κ w).2.2.2, .int f4454_12, .int f4454_13])), ((κ w).2.2.2, .inr (6, [.int (nI f4433_0), .int f4433_1, .int f4433_2, .null, .ref f4433_4, .ref f4433_5, .ref f4433_6, .ref f4433_7])), (q4455, .inr (0, [.null, .null]))] _ := hB.1
                    refine ci_v (As := [.ref f4454_9, .int (nI f4454_10)]) (rest := [.ref q4455, .ref (κ w).2.2.2]) (b := q4455) ⟨hx, hb, hml, hown, hts⟩ (c_X0_init hT (w := q4455) hfq4455 hbq4455 (hP 2 _ rfl) (v := f4454_9) t4454_9 (n := f4454_10) (by first | omega | decide | assumption)) (cwI 2 hts gX5_readStatement_X0_init rfl rfl rfl (hts _ mX5_readStatement_4) (hts _ mX5_readStatement_156) (hts _ mX5_readStatement_157) rfl hdX0_init_o ⟨Nat.le_of_ble_eq_true rfl, Nat.le_of_ble_eq_true rfl⟩) hN hE hL rfl rfl hl.1 (Nat.le_of_ble_eq_true rfl) dX5_readStatement_125 (show 1 + 2 ≤ 3 by omega) (show (0 + 2) + 616 ≤ 618 by omega) (fun H1 locs hL hqr4456 => ?_)
                    obtain ⟨κr4456, hxr4456, hT1, hF1, hqr4456⟩ := hqr4456
                    have hF := hF.tr (hF1.mono (by simp))
                    have hT := hT1
                    have hKF : KF κ κr4456 := hxr4456.f
                    have hKX : KX κ κr4456 := hxr4456
                    have hw := (hxr4456.f.t2 hw (by decide))
                    have hsu := (hxr4456.f.t2 hsu (by decide))
                    have hq4455 := hqr4456
                    obtain ⟨hb4457, e4457, hat4457, hk4457⟩ := hT.o7 hsu.1
                    obtain ⟨f4457_0, f4457_1, f4457_2, f4457_3, f4457_4, f4457_5, f4457_6, f4457_7, rfl, c4457_0, c4457_3, c4457_mg, t4457_4, t4457_5, t4457_6, t4457_7⟩ := hk4457
                    rw [hsu.2] at t4457_4
                    rw [hsu.2] at t4457_5
                    rw [hsu.2] at t4457_6
                    rw [hsu.2] at t4457_7
                    have hP : va_P D vwCl [((κ w).2.2.2, .inr (6, [.int (nI f4457_0), .int f4457_1, .int f4457_2, f4457_3, .ref f4457_4, .ref f4457_5, .ref f4457_6, .ref f4457_7]))] _ := va_P.cons hat4457 va_P.nil
                    have hB : Bx B0 D _ [((κ w).2.2.2, .inr (6, [.int (nI f4457_0), .int f4457_1, .int f4457_2, f4457_3, .ref f4457_4, .ref f4457_5, .ref f4457_6, .ref f4457_7]))] [] _ _ := Bx.of (fun a => (κr4456 a).1) hL hP (fa_c hb4457 fa_n) (by simp only [List.map_cons, List.map_nil, hsu.1]; decide)
                    refine b_putN (D := D) (ci := 6) (v := .ref q4455) (ty := .object "OneBeat$Formula") (C := RX6) (T := TX6) (N := 8) hx hb hts iX5_readStatement_6 tyX6 tyX6_ok nmX6 hown hN hB 0 rfl rfl 3 (by decide) (hN.f 44 rfl) (fun _ h9 => h9) rfl (by decide +kernel) rfl rfl (Nat.le_of_ble_eq_true rfl) (.inl rfl) dX5_readStatement_128 (fun H locs hB => ?_)
                    have hB : Bx B0 D _ [((κ w).2.2.2, .inr (6, [.int (nI f4457_0), .int f4457_1, .int f4457_2, .ref q4455, .ref f4457_4, .ref f4457_5, .ref f4457_6, .ref f4457_7]))] [(κ w).2.2.2] _ _ := hB
                    refine lv_iconst (v := 1) hx hb dX5_readStatement_131 (by decide) ?_
                    have hF : Fr B0 [10, 11] κ H0 _ := hF.closeN hB (fa_c (fun h9 => by rw [← (hKF _ h9).2, hsu.2]; simp) fa_n)
                    have hT : WT B0 D cs T (kp κr4456 (κ w).2.2.2 1 0) _ := hT.closeK (κ w).2.2.2 1 0 hB (by rw [hsu.1]; decide) (by rw [hsu.1]; decide) (List.mem_of_getElem? (i := 0) rfl) ⟨⟨0, _, rfl, kp_ok (ok_7 (k := ((κr4456 (κ w).2.2.2).1, (κr4456 (κ w).2.2.2).2.1, _, _)) hsu.1 ⟨_, _, _, _, _, _, _, _, rfl, (by omega), (Or.inr ⟨_, rfl, (t2kp hq4455)⟩), (Or.inr ⟨_, rfl⟩), ⟨(t2kp t4457_4).1, by rw [hsu.2]; exact (t2kp t4457_4).2⟩, ⟨(t2kp t4457_5).1, by rw [hsu.2]; exact (t2kp t4457_5).2⟩, ⟨(t2kp t4457_6).1, by rw [hsu.2]; exact (t2kp t4457_6).2⟩, ⟨(t2kp t4457_7).1, by rw [hsu.2]; exact (t2kp t4457_7).2⟩⟩)⟩, trivial⟩
                    have hL : OkL B0 _ := hB.2.2.2.2.2
                    have hsu := t2kp (x := 1) (y := 0) (a := (κ w).2.2.2) hsu
                    refine W.know (fun hg => ?_)
                    rw [hH0] at hg
                    exact en_i hx hb hr hlocks hL rfl (show 3 ≤ 3 by omega) (show ((0 + 2) + 616) ≤ 618 by omega) dX5_readStatement_132 (⟨_, (fun a h1 h2 => (kp_n h2).trans (hKX a h1)), hT, hF, hsu, Or.inr ⟨hmg1, by rw [kp_a], hg.mono (by omega) (by omega)⟩, Or.inr rfl⟩)
                · refine va_getN (D := D) (ci := 6) (v := .ref a4450) (C := RX6) (T := TX6) (N := 8) hx hb hts iX5_readStatement_6 hown hN.1 hP 0 rfl rfl 3 (by decide) (hN.f 44 rfl) (fun _ h9 => h9) rfl dX5_readStatement_89 ?_
                  refine lv_ifnonnull (tgt := 133) hx hb dX5_readStatement_92 (by decide) ?_
                  refine lv_aload_n hx hb dX5_readStatement_133 rfl (lv_at hl 0 rfl) ?_
                  refine lv_bipush (v := (-2)) hx hb dX5_readStatement_134 (by decide) ?_
                  refine lv_aload_n hx hb dX5_readStatement_136 rfl (lv_at hl 0 rfl) ?_
                  refine va_get (D := D) (ci := 5) (v := .int (nI f4432_5)) (C := RX5) (T := TX5) (N := 14) hx hb hts iX5_readStatement_5 hown hN.1 hP 1 rfl rfl 5 (by decide) (hts _ mX5_readStatement_7) (fun _ h9 => h9) rfl dX5_readStatement_137 ?_
                  refine cv_i (As := [.int (-2), .int (nI f4432_5)]) (rest := []) (b := w) ⟨hx, hb, hml, hown, hts⟩ (c_X5_fail hT (w := w) hw (x := (-2)) (y := (nI f4432_5))) (cwV 2 hts gX5_readStatement_X5_fail rfl rfl rfl hdX5_fail_v ⟨Nat.le_of_ble_eq_true rfl, Nat.le_of_ble_eq_true rfl⟩) hN hE hL (rcv6 hN hT hw.1) rfl rfl hl.1 (Nat.le_of_ble_eq_true rfl) dX5_readStatement_140 (Nat.zero_le _) (Nat.zero_le _) (fun r4458 H1 locs hL hqr4458 => ?_)
                  obtain ⟨hT1, hF1, hqr4458⟩ := hqr4458
                  have hP : va_P D vwCl [((κ w).2.2.2, .inr (6, [.int (nI f4433_0), .int f4433_1, .int f4433_2, .ref a4450, .ref f4433_4, .ref f4433_5, .ref f4433_6, .ref f4433_7]))] _ := hF1.hP (hP.sub [0] rfl) (fa_c ⟨by rw [hsu.1]; decide, by rw [hsu.2]; first | decide | (simp; done) | (simp; omega)⟩ fa_n)
                  have hF := hF.tr (hF1.mono (by simp))
                  have hT := hT1
                  obtain rfl := hqr4458
                  refine W.know (fun hg => ?_)
                  rw [hH0] at hg
                  exact en_i hx hb hr hlocks hL rfl (Nat.zero_le _) (Nat.zero_le _) dX5_readStatement_143 (⟨_, (fun _ _ _ => rfl), hT, hF, hsu, Or.inl ⟨rfl, hg⟩, Or.inl rfl⟩)
            · refine lv_aload_n hx hb dX5_readStatement_71 rfl (lv_at hl 0 rfl) ?_
              refine cv_i (As := []) (rest := []) (b := w) ⟨hx, hb, hml, hown, hts⟩ (c_X5_readPatience hT (w := w) hw (by first | omega | decide | assumption) (by first | omega | decide | assumption)) (cwV 0 hts gX5_readStatement_X5_readPatience rfl rfl rfl hdX5_readPatience_v ⟨Nat.le_of_ble_eq_true rfl, Nat.le_of_ble_eq_true rfl⟩) hN hE hL (rcv6 hN hT hw.1) rfl rfl hl.1 (Nat.le_of_ble_eq_true rfl) dX5_readStatement_72 (Nat.zero_le _) (Nat.zero_le _) (fun r4459 H1 locs hL hqr4459 => ?_)
              obtain ⟨hT1, hF1, hqr4459⟩ := hqr4459
              have hF := hF.tr (hF1.mono (by simp))
              have hT := hT1
              rcases hqr4459 with rfl | rfl
              · refine W.know (fun hg => ?_)
                rw [hH0] at hg
                exact en_i hx hb hr hlocks hL rfl (Nat.zero_le _) (Nat.zero_le _) dX5_readStatement_75 (⟨_, (fun _ _ _ => rfl), hT, hF, hsu, Or.inl ⟨rfl, hg⟩, Or.inl rfl⟩)
              · refine W.know (fun hg => ?_)
                rw [hH0] at hg
                exact en_i hx hb hr hlocks hL rfl (Nat.zero_le _) (Nat.zero_le _) dX5_readStatement_75 (⟨_, (fun _ _ _ => rfl), hT, hF, hsu, Or.inl ⟨rfl, hg⟩, Or.inr rfl⟩)
        · refine lv_aload_n hx hb dX5_readStatement_47 rfl (lv_at hl 0 rfl) ?_
          refine cv_i (As := []) (rest := []) (b := w) ⟨hx, hb, hml, hown, hts⟩ (c_X5_readNeed hT (w := w) hw (by first | omega | decide | assumption) (by first | omega | decide | assumption)) (cwV 0 hts gX5_readStatement_X5_readNeed rfl rfl rfl hdX5_readNeed_v ⟨Nat.le_of_ble_eq_true rfl, Nat.le_of_ble_eq_true rfl⟩) hN hE hL (rcv6 hN hT hw.1) rfl rfl hl.1 (Nat.le_of_ble_eq_true rfl) dX5_readStatement_48 (Nat.zero_le _) (Nat.zero_le _) (fun r4460 H1 locs hL hqr4460 => ?_)
          obtain ⟨hT1, hF1, hqr4460⟩ := hqr4460
          have hF := hF.tr (hF1.mono (by simp))
          have hT := hT1
          rcases hqr4460 with rfl | rfl
          · refine W.know (fun hg => ?_)
            rw [hH0] at hg
            exact en_i hx hb hr hlocks hL rfl (Nat.zero_le _) (Nat.zero_le _) dX5_readStatement_51 (⟨_, (fun _ _ _ => rfl), hT, hF, hsu, Or.inl ⟨rfl, hg⟩, Or.inl rfl⟩)
          · refine W.know (fun hg => ?_)
            rw [hH0] at hg
            exact en_i hx hb hr hlocks hL rfl (Nat.zero_le _) (Nat.zero_le _) dX5_readStatement_51 (⟨_, (fun _ _ _ => rfl), hT, hF, hsu, Or.inl ⟨rfl, hg⟩, Or.inr rfl⟩)
    · refine lv_if_eq (tgt := 28) hx hb dX5_readStatement_20 (by decide) (fun c9 => absurd c9 (by decide)) (fun _ => ?_)
      refine lv_aload_n hx hb dX5_readStatement_23 rfl (lv_at hl 0 rfl) ?_
      refine cv_i (As := []) (rest := []) (b := w) ⟨hx, hb, hml, hown, hts⟩ (c_X5_readLink hT (w := w) hw (by first | omega | decide | assumption) (by first | omega | decide | assumption)) (cwV 0 hts gX5_readStatement_X5_readLink rfl rfl rfl hdX5_readLink_v ⟨Nat.le_of_ble_eq_true rfl, Nat.le_of_ble_eq_true rfl⟩) hN hE hL (rcv6 hN hT hw.1) rfl rfl hl.1 (Nat.le_of_ble_eq_true rfl) dX5_readStatement_24 (Nat.zero_le _) (Nat.zero_le _) (fun r4461 H1 locs hL hqr4461 => ?_)
      obtain ⟨hT1, hF1, hqr4461⟩ := hqr4461
      have hF := hF.tr (hF1.mono (by simp))
      have hT := hT1
      rcases hqr4461 with rfl | rfl
      · refine W.know (fun hg => ?_)
        rw [hH0] at hg
        exact en_i hx hb hr hlocks hL rfl (Nat.zero_le _) (Nat.zero_le _) dX5_readStatement_27 (⟨_, (fun _ _ _ => rfl), hT, hF, hsu, Or.inl ⟨rfl, hg⟩, Or.inl rfl⟩)
      · refine W.know (fun hg => ?_)
        rw [hH0] at hg
        exact en_i hx hb hr hlocks hL rfl (Nat.zero_le _) (Nat.zero_le _) dX5_readStatement_27 (⟨_, (fun _ _ _ => rfl), hT, hF, hsu, Or.inl ⟨rfl, hg⟩, Or.inr rfl⟩)
  · refine lv_if_eq (tgt := 14) hx hb dX5_readStatement_6 (by decide) (fun c9 => absurd c9 (by decide)) (fun _ => ?_)
    refine lv_aload_n hx hb dX5_readStatement_9 rfl (lv_at hl 0 rfl) ?_
    refine cv_i (As := []) (rest := []) (b := w) ⟨hx, hb, hml, hown, hts⟩ (c_X5_readClock hT (w := w) hw (by first | omega | decide | assumption) (by first | omega | decide | assumption)) (cwV 0 hts gX5_readStatement_X5_readClock rfl rfl rfl hdX5_readClock_v ⟨Nat.le_of_ble_eq_true rfl, Nat.le_of_ble_eq_true rfl⟩) hN hE hL (rcv6 hN hT hw.1) rfl rfl hl.1 (Nat.le_of_ble_eq_true rfl) dX5_readStatement_10 (Nat.zero_le _) (Nat.zero_le _) (fun r4462 H1 locs hL hqr4462 => ?_)
    obtain ⟨hT1, hF1, hqr4462⟩ := hqr4462
    have hF := hF.tr (hF1.mono (by simp))
    have hT := hT1
    rcases hqr4462 with rfl | rfl
    · refine W.know (fun hg => ?_)
      rw [hH0] at hg
      exact en_i hx hb hr hlocks hL rfl (Nat.zero_le _) (Nat.zero_le _) dX5_readStatement_13 (⟨_, (fun _ _ _ => rfl), hT, hF, hsu, Or.inl ⟨rfl, hg⟩, Or.inl rfl⟩)
    · refine W.know (fun hg => ?_)
      rw [hH0] at hg
      exact en_i hx hb hr hlocks hL rfl (Nat.zero_le _) (Nat.zero_le _) dX5_readStatement_13 (⟨_, (fun _ _ _ => rfl), hT, hF, hsu, Or.inl ⟨rfl, hg⟩, Or.inr rfl⟩)
theorem mX5_read_1 : (.fieldLink RX5 11 "OneBeat$Reader" "text" "[B" : Cond) ∈ wsX5_read := List.mem_of_getElem? (i := 1) (by decide +kernel)
theorem iX5_read_5 : ∀ w ∈ wsX50, w ∈ wsX5_read := fun w h => List.mem_of_mem_drop (List.mem_of_mem_take ((show wsX50 = (wsX5_read.drop 210).take 14 by decide +kernel) ▸ h))
theorem mX5_read_2 : (.methodLink RX5 23 Lib.Math.min.name : Cond) ∈ wsX5_read := List.mem_of_getElem? (i := 2) (by decide +kernel)
theorem mX5_read_3 : (.static Lib.Math.min.name : Cond) ∈ wsX5_read := List.mem_of_getElem? (i := 3) (by decide +kernel)
theorem mX5_read_4 : (.initialized "java/lang/Math" : Cond) ∈ wsX5_read := List.mem_of_getElem? (i := 4) (by decide +kernel)
theorem mX5_read_5 : (.code Lib.Math.min.name Lib.Math.min.code 2 (some .int) : Cond) ∈ wsX5_read := List.mem_of_getElem? (i := 5) (by decide +kernel)
theorem mX5_read_6 : (.methodLink RX5 29 Lib.Math.max.name : Cond) ∈ wsX5_read := List.mem_of_getElem? (i := 6) (by decide +kernel)
theorem mX5_read_7 : (.static Lib.Math.max.name : Cond) ∈ wsX5_read := List.mem_of_getElem? (i := 7) (by decide +kernel)
theorem mX5_read_8 : (.code Lib.Math.max.name Lib.Math.max.code 2 (some .int) : Cond) ∈ wsX5_read := List.mem_of_getElem? (i := 8) (by decide +kernel)
theorem mX5_read_9 : (.fieldLink RX5 32 "OneBeat$Reader" "length" "I" : Cond) ∈ wsX5_read := List.mem_of_getElem? (i := 9) (by decide +kernel)
theorem mX5_read_10 : (.fieldLink RX5 19 "OneBeat$Reader" "stored" "I" : Cond) ∈ wsX5_read := List.mem_of_getElem? (i := 10) (by decide +kernel)
theorem mX5_read_11 : (.fieldLink RX5 35 "OneBeat$Reader" "position" "I" : Cond) ∈ wsX5_read := List.mem_of_getElem? (i := 11) (by decide +kernel)
theorem mX5_read_12 : (.fieldLink RX5 38 "OneBeat$Reader" "codeCount" "I" : Cond) ∈ wsX5_read := List.mem_of_getElem? (i := 12) (by decide +kernel)
theorem mX5_read_13 : (.fieldLink RX5 41 "OneBeat$Reader" "errorStart" "I" : Cond) ∈ wsX5_read := List.mem_of_getElem? (i := 13) (by decide +kernel)
theorem hdX5_takeWord_v : yX5_takeWord.cls = RX5 ∧ yX5_takeWord.cls ≠ "java/lang/invoke/MethodHandle" ∧ yX5_takeWord.cls ≠ "java/lang/invoke/VarHandle" ∧ (parseMethodDescriptor yX5_takeWord.desc).map (fun d => d.parameters.length) = some 1 := by decide +kernel
theorem iX5_read_6 : ∀ w ∈ wsX60, w ∈ wsX5_read := fun w h => List.mem_of_mem_drop (List.mem_of_mem_take ((show wsX60 = (wsX5_read.drop 224).take 8 by decide +kernel) ▸ h))
theorem mX5_read_14 : (.classLink RX5 53 RX6 : Cond) ∈ wsX5_read := List.mem_of_getElem? (i := 14) (by decide +kernel)
theorem mX5_read_15 : (.instantiable RX6 8 : Cond) ∈ wsX5_read := List.mem_of_getElem? (i := 15) (by decide +kernel)
theorem mX5_read_16 : (.initialized RX6 : Cond) ∈ wsX5_read := List.mem_of_getElem? (i := 16) (by decide +kernel)
theorem dfl6 : ∀ j, j < 8 → defaultValue (tyX6 j) = vp_V [.int 0, .int 0, .int 0, .null, .null, .null, .null, .null] j := by decide +kernel
theorem mX5_read_17 : (.fieldLink RX5 59 "OneBeat$Reader" "taken" "I" : Cond) ∈ wsX5_read := List.mem_of_getElem? (i := 17) (by decide +kernel)
theorem mX5_read_96 : (.instanceMethod yX6_init : Cond) ∈ wsX5_read := List.mem_of_getElem? (i := 96) (by decide +kernel)
theorem mX5_read_95 : (.methodLink RX5 62 yX6_init : Cond) ∈ wsX5_read := List.mem_of_getElem? (i := 95) (by decide +kernel)
theorem hdX6_init_o : yX6_init.cls ≠ "java/lang/invoke/MethodHandle" ∧ yX6_init.cls ≠ "java/lang/invoke/VarHandle" ∧ (parseMethodDescriptor yX6_init.desc).map (fun d => d.parameters.length) = some 1 := by decide +kernel
theorem mX5_read_18 : (.fieldLink RX5 65 "OneBeat$Reader" "setup" "LOneBeat$Setup;" : Cond) ∈ wsX5_read := List.mem_of_getElem? (i := 18) (by decide +kernel)
theorem hdX6_fillIn_v : yX6_fillIn.cls = RX6 ∧ yX6_fillIn.cls ≠ "java/lang/invoke/MethodHandle" ∧ yX6_fillIn.cls ≠ "java/lang/invoke/VarHandle" ∧ (parseMethodDescriptor yX6_fillIn.desc).map (fun d => d.parameters.length) = some 0 := by decide +kernel
theorem mX5_read_19 : (.fieldLink RX5 73 "OneBeat$Reader" "kind" "I" : Cond) ∈ wsX5_read := List.mem_of_getElem? (i := 19) (by decide +kernel)
theorem hdX5_readStatement_v : yX5_readStatement.cls = RX5 ∧ yX5_readStatement.cls ≠ "java/lang/invoke/MethodHandle" ∧ yX5_readStatement.cls ≠ "java/lang/invoke/VarHandle" ∧ (parseMethodDescriptor yX5_readStatement.desc).map (fun d => d.parameters.length) = some 0 := by decide +kernel
set_option maxHeartbeats 4000000 in
set_option maxRecDepth 100000 in
theorem c_X5_read {l : Launch} {D : va_G} {cs : Nat → ClassId} {B0 T : Nat} {κ : KM} {H0 : Heap} (hT : WT B0 D cs T κ H0) {w : Nat} (hw : T2 κ w 6 10) {n : Nat} (hn : n ≤ 600) : KC l yX5_read wsX5_read 22 487 11 1332 D cs B0 H0 [.ref w, .int (nI n)] (Qn (fun r H => ∃ κ1, (∀ a, (κ a).1 ≠ 0 → a ≠ w → (κ a).2.1 ≠ 11 → κ1 a = κ a) ∧ (∀ a, (κ a).1 ≠ 0 → (κ1 a).1 = (κ a).1) ∧ T2 κ1 w 6 10 ∧ (κ1 w).2.2.1 = 0 ∧ WT B0 D cs T κ1 H ∧ Fr B0 [10, 11] κ H0 H ∧ Gr H0 H 8 714 ∧ (r = .null ∨ ∃ q, r = .ref q ∧ T2 κ1 q 7 15))) := by
  refine KC.of cX5_read 3 (some (.object "OneBeat$Setup")) (by decide) rfl (Nat.le_of_ble_eq_true rfl) ?_
  intro p e s m below meth c ls hx hb hr hml hown hts hlocks hin hN hE hH0 hl
  have hown : s.vm.findClass RX5 = some m.cls := hown
  have hl : lv_has ls 3 [(0, .ref w), (1, .int (nI n))] := hl
  have hL : OkL B0 [] := OkL.nil
  have hF : Fr B0 [10, 11] κ H0 H0 := Fr.rf
  refine lv_aload_n hx hb dX5_read_0 rfl (lv_at hl 0 rfl) ?_
  refine lv_iconst (v := 0) hx hb dX5_read_1 (by decide) ?_
  refine lv_iload_n hx hb dX5_read_2 rfl (lv_at hl 1 rfl) ?_
  refine lv_aload_n hx hb dX5_read_3 rfl (lv_at hl 0 rfl) ?_
  obtain ⟨hb4463, e4463, hat4463, hk4463⟩ := hT.o6 hw.1
  obtain ⟨f4463_0, f4463_2, f4463_3, f4463_4, f4463_5, f4463_6, f4463_7, f4463_8, f4463_9, f4463_10, f4463_11, f4463_12, f4463_13, rfl, c4463_1, c4463_2, c4463_3, c4463_5, c4463_10, t4463_0, t4463_9, c4463_11, c4463_p2⟩ := hk4463
  have hP : va_P D vwCl [(w, .inr (5, [.ref f4463_0, .int (nI ((κ w).2.2.1)), .int (nI f4463_2), .int (nI f4463_3), .int f4463_4, .int (nI f4463_5), .int f4463_6, .int f4463_7, .int f4463_8, .ref f4463_9, .int (nI f4463_10), f4463_11, .int f4463_12, .int f4463_13]))] _ := va_P.cons hat4463 va_P.nil
  refine va_get (D := D) (ci := 5) (v := .ref f4463_0) (C := RX5) (T := TX5) (N := 14) hx hb hts iX5_read_5 hown hN.1 hP 0 rfl rfl 0 (by decide) (hts _ mX5_read_1) (fun _ h9 => h9) rfl dX5_read_4 ?_
  obtain ⟨hb4464, e4464, hat4464, hk4464⟩ := hT.o16 t4463_0.1
  obtain ⟨g4464, rfl⟩ := hk4464
  have hP : va_P D vwCl [(f4463_0, .inl (cs 1, 600, .inl g4464)), (w, .inr (5, [.ref f4463_0, .int (nI ((κ w).2.2.1)), .int (nI f4463_2), .int (nI f4463_3), .int f4463_4, .int (nI f4463_5), .int f4463_6, .int f4463_7, .int f4463_8, .ref f4463_9, .int (nI f4463_10), f4463_11, .int f4463_12, .int f4463_13]))] _ := va_P.cons hat4464 hP
  refine va_alen (v := 600) hx hb hN.1 hP 0 1 rfl rfl rfl dX5_read_7 ?_
  refine va_mmin hx hb (hml.trans hl.1.symm) hown (hts _ mX5_read_2) (hts _ mX5_read_3) (hts _ mX5_read_4) (hts _ mX5_read_5) (Nat.le_of_ble_eq_true rfl) (Nat.le_of_ble_eq_true rfl) (Nat.zero_le _) (Nat.zero_le _) dX5_read_8 ?_
  obtain ⟨m4465, hm4465, em4465⟩ := nI_min (a := n) (b := 600) (by omega) (by omega)
  refine tp_i (nI m4465) em4465 ?_
  refine va_mmax hx hb (hml.trans hl.1.symm) hown (hts _ mX5_read_6) (hts _ mX5_read_7) (hts _ mX5_read_4) (hts _ mX5_read_8) (Nat.le_of_ble_eq_true rfl) (Nat.le_of_ble_eq_true rfl) (Nat.zero_le _) (Nat.zero_le _) dX5_read_11 ?_
  obtain ⟨m4466, hm4466, em4466⟩ := nI_max (a := 0) (b := m4465) (by omega) (by omega)
  refine tp_i (nI m4466) em4466 ?_
  have hB : Bx B0 D _ [(f4463_0, .inl (cs 1, 600, .inl g4464)), (w, .inr (5, [.ref f4463_0, .int (nI ((κ w).2.2.1)), .int (nI f4463_2), .int (nI f4463_3), .int f4463_4, .int (nI f4463_5), .int f4463_6, .int f4463_7, .int f4463_8, .ref f4463_9, .int (nI f4463_10), f4463_11, .int f4463_12, .int f4463_13]))] [] _ _ := Bx.of (fun a => (κ a).1) hL hP (fa_c hb4464 (fa_c hb4463 fa_n)) (by simp only [List.map_cons, List.map_nil, t4463_0.1, hw.1]; decide)
  refine b_put (D := D) (ci := 5) (v := .int (nI m4466)) (ty := .int) (C := RX5) (T := TX5) (N := 14) hx hb hts iX5_read_5 tyX5 tyX5_ok nmX5 hown hN hB 1 rfl rfl 2 (by decide) (hts _ mX5_read_9) (fun _ h9 => h9) rfl (by decide +kernel) rfl rfl (Nat.le_of_ble_eq_true rfl) (.inl rfl) dX5_read_14 (fun H locs hB => ?_)
  have hB : Bx B0 D _ [(f4463_0, .inl (cs 1, 600, .inl g4464)), (w, .inr (5, [.ref f4463_0, .int (nI ((κ w).2.2.1)), .int (nI m4466), .int (nI f4463_3), .int f4463_4, .int (nI f4463_5), .int f4463_6, .int f4463_7, .int f4463_8, .ref f4463_9, .int (nI f4463_10), f4463_11, .int f4463_12, .int f4463_13]))] [w] _ _ := hB
  refine lv_aload_n hx hb dX5_read_17 rfl (lv_at hl 0 rfl) ?_
  refine lv_iconst (v := 0) hx hb dX5_read_18 (by decide) ?_
  refine tp_i (nI 0) rfl ?_
  refine b_put (D := D) (ci := 5) (v := .int (nI 0)) (ty := .int) (C := RX5) (T := TX5) (N := 14) hx hb hts iX5_read_5 tyX5 tyX5_ok nmX5 hown hN hB 1 rfl rfl 1 (by decide) (hts _ mX5_read_10) (fun _ h9 => h9) rfl (by decide +kernel) rfl rfl (Nat.le_of_ble_eq_true rfl) (.inr ⟨rfl, List.mem_of_getElem? (i := 0) rfl⟩) dX5_read_19 (fun H locs hB => ?_)
  have hB : Bx B0 D _ [(f4463_0, .inl (cs 1, 600, .inl g4464)), (w, .inr (5, [.ref f4463_0, .int (nI 0), .int (nI m4466), .int (nI f4463_3), .int f4463_4, .int (nI f4463_5), .int f4463_6, .int f4463_7, .int f4463_8, .ref f4463_9, .int (nI f4463_10), f4463_11, .int f4463_12, .int f4463_13]))] [w] _ _ := hB
  refine lv_aload_n hx hb dX5_read_22 rfl (lv_at hl 0 rfl) ?_
  refine lv_iconst (v := 0) hx hb dX5_read_23 (by decide) ?_
  refine tp_i (nI 0) rfl ?_
  refine b_put (D := D) (ci := 5) (v := .int (nI 0)) (ty := .int) (C := RX5) (T := TX5) (N := 14) hx hb hts iX5_read_5 tyX5 tyX5_ok nmX5 hown hN hB 1 rfl rfl 3 (by decide) (hts _ mX5_read_11) (fun _ h9 => h9) rfl (by decide +kernel) rfl rfl (Nat.le_of_ble_eq_true rfl) (.inr ⟨rfl, List.mem_of_getElem? (i := 0) rfl⟩) dX5_read_24 (fun H locs hB => ?_)
  have hB : Bx B0 D _ [(f4463_0, .inl (cs 1, 600, .inl g4464)), (w, .inr (5, [.ref f4463_0, .int (nI 0), .int (nI m4466), .int (nI 0), .int f4463_4, .int (nI f4463_5), .int f4463_6, .int f4463_7, .int f4463_8, .ref f4463_9, .int (nI f4463_10), f4463_11, .int f4463_12, .int f4463_13]))] [w] _ _ := hB
  refine lv_aload_n hx hb dX5_read_27 rfl (lv_at hl 0 rfl) ?_
  refine lv_iconst (v := 0) hx hb dX5_read_28 (by decide) ?_
  refine tp_i (nI 0) rfl ?_
  refine b_put (D := D) (ci := 5) (v := .int (nI 0)) (ty := .int) (C := RX5) (T := TX5) (N := 14) hx hb hts iX5_read_5 tyX5 tyX5_ok nmX5 hown hN hB 1 rfl rfl 10 (by decide) (hts _ mX5_read_12) (fun _ h9 => h9) rfl (by decide +kernel) rfl rfl (Nat.le_of_ble_eq_true rfl) (.inr ⟨rfl, List.mem_of_getElem? (i := 0) rfl⟩) dX5_read_29 (fun H locs hB => ?_)
  have hB : Bx B0 D _ [(f4463_0, .inl (cs 1, 600, .inl g4464)), (w, .inr (5, [.ref f4463_0, .int (nI 0), .int (nI m4466), .int (nI 0), .int f4463_4, .int (nI f4463_5), .int f4463_6, .int f4463_7, .int f4463_8, .ref f4463_9, .int (nI 0), f4463_11, .int f4463_12, .int f4463_13]))] [w] _ _ := hB
  refine lv_aload_n hx hb dX5_read_32 rfl (lv_at hl 0 rfl) ?_
  refine lv_iconst (v := (-1)) hx hb dX5_read_33 (by decide) ?_
  refine b_put (D := D) (ci := 5) (v := .int (-1)) (ty := .int) (C := RX5) (T := TX5) (N := 14) hx hb hts iX5_read_5 tyX5 tyX5_ok nmX5 hown hN hB 1 rfl rfl 13 (by decide) (hts _ mX5_read_13) (fun _ h9 => h9) rfl (by decide +kernel) rfl rfl (Nat.le_of_ble_eq_true rfl) (.inr ⟨rfl, List.mem_of_getElem? (i := 0) rfl⟩) dX5_read_34 (fun H locs hB => ?_)
  have hB : Bx B0 D _ [(f4463_0, .inl (cs 1, 600, .inl g4464)), (w, .inr (5, [.ref f4463_0, .int (nI 0), .int (nI m4466), .int (nI 0), .int f4463_4, .int (nI f4463_5), .int f4463_6, .int f4463_7, .int f4463_8, .ref f4463_9, .int (nI 0), f4463_11, .int f4463_12, .int (-1)]))] [w] _ _ := hB
  have hF : Fr B0 [10, 11] κ H0 _ := hF.close hB (fa_c (by simp [hw.2]) fa_n)
  have hT : WT B0 D cs T (kp κ w 0 0) _ := hT.closeK w 0 0 hB (by rw [hw.1]; decide) (by rw [hw.1]; decide) (List.mem_of_getElem? (i := 0) rfl) ⟨⟨1, _, rfl, kp_ok (ok_6 (k := ((κ w).1, (κ w).2.1, _, _)) hw.1 ⟨_, _, _, _, _, _, _, _, _, _, _, _, _, rfl, (by show 0 ≤ 600; omega), (by omega), (by omega), (by omega), (by omega), (t2kp t4463_0), (t2kp t4463_9), (kp_su c4463_11), (Or.inl rfl)⟩)⟩, trivial⟩
  have hL : OkL B0 _ := hB.2.2.2.2.2
  obtain ⟨κ4467, hκ4467⟩ : ∃ κ9 : KM, κ9 = (kp κ w 0 0) := ⟨_, rfl⟩
  have hxf4467 : KF κ κ4467 := by rw [hκ4467]; exact KF.kp
  rw [← hκ4467] at hT
  have hKF : KF κ κ4467 := hxf4467
  have hw := (KF.t2 hxf4467 hw (by decide))
  have hKW : ∀ a, (κ a).1 ≠ 0 → a ≠ w → κ4467 a = κ a := fun a _ h9 => by rw [hκ4467, kp_n h9]
  have hw1 : (κ4467 w).2.2.1 = 0 := by rw [hκ4467, kp_a]
  refine lv_aload_n hx hb dX5_read_37 rfl (lv_at hl 0 rfl) ?_
  refine cv_v (As := []) (rest := []) (b := w) ⟨hx, hb, hml, hown, hts⟩ (c_X5_step hT (w := w) hw) (cwV 0 hts gX5_read_X5_step rfl rfl rfl hdX5_step_v ⟨Nat.le_of_ble_eq_true rfl, Nat.le_of_ble_eq_true rfl⟩) hN hE hL (rcv6 hN hT hw.1) rfl rfl hl.1 (Nat.le_of_ble_eq_true rfl) dX5_read_38 (Nat.zero_le _) (Nat.zero_le _) (fun H1 locs hL hqr4468 => ?_)
  obtain ⟨hT1, hF1, hqr4468⟩ := hqr4468
  have hF := hF.tr ((hF1.kf hKF).mono (by simp))
  have hT := hT1
  have f4469 := hqr4468
  refine lv_aload_n hx hb dX5_read_41 rfl (lv_at hl 0 rfl) ?_
  refine va_ldcS hx hb hown (hN.s 1 rfl) dX5_read_42 ?_
  refine cv_i (As := [.ref (cs 101)]) (rest := []) (b := w) ⟨hx, hb, hml, hown, hts⟩ (c_X5_takeWord hT (w := w) hw (i := 1) (by decide)) (cwV 1 hts gX5_read_X5_takeWord rfl rfl rfl hdX5_takeWord_v ⟨Nat.le_of_ble_eq_true rfl, Nat.le_of_ble_eq_true rfl⟩) hN hE hL (rcv6 hN hT hw.1) rfl rfl hl.1 (Nat.le_of_ble_eq_true rfl) dX5_read_44 (Nat.zero_le _) (Nat.zero_le _) (fun r4470 H1 locs hL hqr4470 => ?_)
  obtain ⟨hT1, hF1, hqr4470⟩ := hqr4470
  have hF := hF.tr ((hF1.kf hKF).mono (by simp))
  have hT := hT1
  rcases hqr4470 with rfl | rfl
  · refine lv_if_eq (tgt := 60) hx hb dX5_read_47 (by decide) (fun _ => ?_) (fun c9 => absurd (by decide) c9)
    refine lv_null hx hb dX5_read_60 ?_
    refine W.know (fun hg => ?_)
    rw [hH0] at hg
    exact en_n hx hb hr hlocks (by first | exact Or.inl ⟨_, rfl⟩ | exact Or.inr ⟨_, rfl⟩) hL (Nat.zero_le _) (Nat.zero_le _) (Or.inl rfl) dX5_read_61 (⟨κ4467, (fun a h1 h2 _ => hKW a h1 h2), (fun a h1 => (hKF a h1).1), hw, hw1, hT, hF, hg.mono (by omega) (by omega), Or.inl rfl⟩)
  · refine lv_if_eq (tgt := 60) hx hb dX5_read_47 (by decide) (fun c9 => absurd c9 (by decide)) (fun _ => ?_)
    refine lv_aload_n hx hb dX5_read_50 rfl (lv_at hl 0 rfl) ?_
    refine lv_iconst (v := 1) hx hb dX5_read_51 (by decide) ?_
    refine lv_bipush (v := 8) hx hb dX5_read_52 (by decide) ?_
    refine cv_i (As := [.int 1, .int 8]) (rest := []) (b := w) ⟨hx, hb, hml, hown, hts⟩ (c_X5_takeNumber hT (w := w) hw (x := 1) (y := 8)) (cwV 2 hts gX5_read_X5_takeNumber rfl rfl rfl hdX5_takeNumber_v ⟨Nat.le_of_ble_eq_true rfl, Nat.le_of_ble_eq_true rfl⟩) hN hE hL (rcv6 hN hT hw.1) rfl rfl hl.1 (Nat.le_of_ble_eq_true rfl) dX5_read_54 (Nat.zero_le _) (Nat.zero_le _) (fun r4471 H1 locs hL hqr4471 => ?_)
    obtain ⟨hT1, hF1, hqr4471⟩ := hqr4471
    have hF := hF.tr ((hF1.kf hKF).mono (by simp))
    have hT := hT1
    rcases hqr4471 with rfl | ⟨rfl, v4472, l4473, g4474, f4475⟩
    · refine lv_if_ne (tgt := 62) hx hb dX5_read_57 (by decide) (fun c9 => absurd (by decide) c9) (fun _ => ?_)
      refine lv_null hx hb dX5_read_60 ?_
      refine W.know (fun hg => ?_)
      rw [hH0] at hg
      exact en_n hx hb hr hlocks (by first | exact Or.inl ⟨_, rfl⟩ | exact Or.inr ⟨_, rfl⟩) hL (Nat.zero_le _) (Nat.zero_le _) (Or.inl rfl) dX5_read_61 (⟨κ4467, (fun a h1 h2 _ => hKW a h1 h2), (fun a h1 => (hKF a h1).1), hw, hw1, hT, hF, hg.mono (by omega) (by omega), Or.inl rfl⟩)
    · obtain ⟨n4476, hn4476a, hn4476b, rfl⟩ := rng (x := v4472) (lo := 1) (hi := 8) (by decide) (by decide) l4473 g4474
      refine lv_if_ne (tgt := 62) hx hb dX5_read_57 (by decide) (fun _ => ?_) (fun c9 => absurd c9 (by decide))
      refine lv_aload_n hx hb dX5_read_62 rfl (lv_at hl 0 rfl) ?_
      have hb0 : B0 ≤ _ := hT.b0 hw (by decide)
      have hP : va_P D vwCl [] _ := hT.nil
      have hB : Bx B0 D _ [] [] _ _ := Bx.of (fun a => (κ4467 a).1) hL hP fa_n (by simp only [List.map_cons, List.map_nil, ]; decide)
      refine nw_o (ci := 6) (fs := [.int 0, .int 0, .int 0, .null, .null, .null, .null, .null]) (C := RX6) (T := TX6) (N := 8) hx hb hts iX5_read_6 tyX6 tyX6_ok hown (hts _ mX5_read_14) (hts _ mX5_read_15) (hts _ mX5_read_16) hN rfl dfl6 (show 0 + 1 ≤ 11 by omega) (show 0 + 8 ≤ 1332 by omega) dX5_read_63 (fun q4477 H heq4477 hzq4477 hoq4477 hatq4477 => ?_)
      have hgeq4477 : _ ≤ q4477 := Nat.le_trans hB.2.2.1 (Nat.le_of_eq heq4477.symm)
      have hbq4477 : B0 ≤ q4477 := Nat.le_trans hb0 hgeq4477
      have hfq4477 : (κ4467 q4477).1 = 0 := hT.fresh hgeq4477
      have hB := hB.nw heq4477 hzq4477 hoq4477 hatq4477 hb0
      have hB : Bx B0 D _ [(q4477, .inr (6, [.int 0, .int 0, .int 0, .null, .null, .null, .null, .null]))] [] _ _ := hB
      have hT0 := hT
      refine lv_dup hx hb dX5_read_66 rfl ?_
      refine lv_aload_n hx hb dX5_read_67 rfl (lv_at hl 0 rfl) ?_
      obtain ⟨hb4478, e4478, hat4478, hk4478⟩ := hT.o6 hw.1
      obtain ⟨f4478_0, f4478_2, f4478_3, f4478_4, f4478_5, f4478_6, f4478_7, f4478_8, f4478_9, f4478_10, f4478_11, f4478_12, f4478_13, rfl, c4478_1, c4478_2, c4478_3, c4478_5, c4478_10, t4478_0, t4478_9, c4478_11, c4478_p2⟩ := hk4478
      obtain rfl : f4478_7 = nI n4476 := Value.int.inj (f4475.eq hat4478 rfl (by decide) rfl)
      have hB : Bx B0 D _ [(q4477, .inr (6, [.int 0, .int 0, .int 0, .null, .null, .null, .null, .null])), (w, .inr (5, [.ref f4478_0, .int (nI ((κ4467 w).2.2.1)), .int (nI f4478_2), .int (nI f4478_3), .int f4478_4, .int (nI f4478_5), .int f4478_6, .int (nI n4476), .int f4478_8, .ref f4478_9, .int (nI f4478_10), f4478_11, .int f4478_12, .int f4478_13]))] [] _ _ := hB.more hat4478 hb4478 (fa_c (nw_ne hat4478 hgeq4477) fa_n) fa_n
      refine va_get (D := D) (ci := 5) (v := .int (nI n4476)) (C := RX5) (T := TX5) (N := 14) hx hb hts iX5_read_5 hown hN.1 hB.1 1 rfl rfl 7 (by decide) (hts _ mX5_read_17) (fun _ h9 => h9) rfl dX5_read_68 ?_
      have hwO := hw
      have hKFO := hKF
      have hT : WT B0 D cs T κ4467 _ := hT.close hB trivial
      have hF : Fr B0 [10, 11] κ H0 _ := hF.closeN hB fa_n
      have hL : OkL B0 _ := hB.2.2.2.2.2
      have hP : va_P D vwCl [(q4477, .inr (6, [.int 0, .int 0, .int 0, .null, .null, .null, .null, .null])), (w, .inr (5, [.ref f4478_0, .int (nI ((κ4467 w).2.2.1)), .int (nI f4478_2), .int (nI f4478_3), .int f4478_4, .int (nI f4478_5), .int f4478_6, .int (nI n4476), .int f4478_8, .ref f4478_9, .int (nI f4478_10), f4478_11, .int f4478_12, .int f4478_13]))] _ := hB.1
      refine ci_v (As := [.int (nI n4476)]) (rest := [.ref q4477, .ref w]) (b := q4477) ⟨hx, hb, hml, hown, hts⟩ (c_X6_init hT (w := q4477) hfq4477 hbq4477 (hP 0 _ rfl) (n := n4476) (by first | omega | decide | assumption)) (cwI 1 hts gX5_read_X6_init rfl rfl rfl (hts _ mX5_read_16) (hts _ mX5_read_95) (hts _ mX5_read_96) rfl hdX6_init_o ⟨Nat.le_of_ble_eq_true rfl, Nat.le_of_ble_eq_true rfl⟩) hN hE hL rfl rfl hl.1 (Nat.le_of_ble_eq_true rfl) dX5_read_71 (show 1 + 4 ≤ 11 by omega) (show (0 + 8) + 88 ≤ 1332 by omega) (fun H1 locs hL hqr4479 => ?_)
      obtain ⟨κr4479, hxr4479, hT1, hF1, hqr4479⟩ := hqr4479
      have hF := hF.tr ((hF1.kf hKF).mono (by simp))
      have hT := hT1
      have hKF := hKF.tr hxr4479.f
      have hw := (hxr4479.f.t2 hw (by decide))
      obtain ⟨hq4477, hqr4479⟩ := hqr4479
      have ekq4477 := hqr4479
      have ew9 : κr4479 w = _ := hxr4479 w (by rw [hwO.1]; decide)
      have hKW : ∀ a, (κ a).1 ≠ 0 → a ≠ w → κr4479 a = κ a := fun a h1 h2 => (hxr4479 a (by rw [hKW a h1 h2]; exact h1)).trans (hKW a h1 h2)
      have hw1 : (κr4479 w).2.2.1 = 0 := by rw [ew9]; exact hw1
      have hsf : (κ q4477).1 = 0 := by have h9 := hfq4477; by_cases h8 : (κ q4477).1 = 0; exact h8; rw [(hKFO _ h8).1] at h9; exact h9
      have hq0 : ¬ q4477 = 0 := by have h9 := hT0.lt hwO (by decide); omega
      have hqw : q4477 ≠ w := ne_c hq4477.1 hw.1 (by decide)
      obtain ⟨hb4480, e4480, hat4480, hk4480⟩ := hT.o6 hw.1
      obtain ⟨f4480_0, f4480_2, f4480_3, f4480_4, f4480_5, f4480_6, f4480_7, f4480_8, f4480_9, f4480_10, f4480_11, f4480_12, f4480_13, rfl, c4480_1, c4480_2, c4480_3, c4480_5, c4480_10, t4480_0, t4480_9, c4480_11, c4480_p2⟩ := hk4480
      have hP : va_P D vwCl [(w, .inr (5, [.ref f4480_0, .int (nI ((κr4479 w).2.2.1)), .int (nI f4480_2), .int (nI f4480_3), .int f4480_4, .int (nI f4480_5), .int f4480_6, .int f4480_7, .int f4480_8, .ref f4480_9, .int (nI f4480_10), f4480_11, .int f4480_12, .int f4480_13]))] _ := va_P.cons hat4480 va_P.nil
      have hB : Bx B0 D _ [(w, .inr (5, [.ref f4480_0, .int (nI ((κr4479 w).2.2.1)), .int (nI f4480_2), .int (nI f4480_3), .int f4480_4, .int (nI f4480_5), .int f4480_6, .int f4480_7, .int f4480_8, .ref f4480_9, .int (nI f4480_10), f4480_11, .int f4480_12, .int f4480_13]))] [] _ _ := Bx.of (fun a => (κr4479 a).1) hL hP (fa_c hb4480 fa_n) (by simp only [List.map_cons, List.map_nil, hw.1]; decide)
      refine b_put (D := D) (ci := 5) (v := .ref q4477) (ty := .object "OneBeat$Setup") (C := RX5) (T := TX5) (N := 14) hx hb hts iX5_read_5 tyX5 tyX5_ok nmX5 hown hN hB 0 rfl rfl 11 (by decide) (hts _ mX5_read_18) (fun _ h9 => h9) rfl (by decide +kernel) rfl rfl (Nat.le_of_ble_eq_true rfl) (.inl rfl) dX5_read_74 (fun H locs hB => ?_)
      have hB : Bx B0 D _ [(w, .inr (5, [.ref f4480_0, .int (nI ((κr4479 w).2.2.1)), .int (nI f4480_2), .int (nI f4480_3), .int f4480_4, .int (nI f4480_5), .int f4480_6, .int f4480_7, .int f4480_8, .ref f4480_9, .int (nI f4480_10), .ref q4477, .int f4480_12, .int f4480_13]))] [w] _ _ := hB
      have hqO := hq4477
      have hF : Fr B0 [10, 11] κ H0 _ := hF.closeN hB (fa_c (fun h9 => by rw [← (hKF _ h9).2, hw.2]; simp) fa_n)
      have hT : WT B0 D cs T (kp κr4479 w (κr4479 w).2.2.1 q4477) _ := hT.closeK w (κr4479 w).2.2.1 q4477 hB (by rw [hw.1]; decide) (by rw [hw.1]; decide) (List.mem_of_getElem? (i := 0) rfl) ⟨⟨0, _, rfl, kp_ok (ok_6 (k := ((κr4479 w).1, (κr4479 w).2.1, _, _)) hw.1 ⟨_, _, _, _, _, _, _, _, _, _, _, _, _, rfl, (by show (κr4479 w).2.2.1 ≤ 600; omega), (by omega), (by omega), (by omega), (by omega), (t2kp t4480_0), (t2kp t4480_9), (kp_su (Or.inr ⟨_, rfl, hq4477.1⟩)), (Or.inr rfl)⟩)⟩, trivial⟩
      have hL : OkL B0 _ := hB.2.2.2.2.2
      obtain ⟨κ4481, hκ4481⟩ : ∃ κ9 : KM, κ9 = (kp κr4479 w (κr4479 w).2.2.1 q4477) := ⟨_, rfl⟩
      have hxf4481 : KF κr4479 κ4481 := by rw [hκ4481]; exact KF.kp
      rw [← hκ4481] at hT
      have hKF := hKF.tr hxf4481
      have hw := (KF.t2 hxf4481 hw (by decide))
      have hKW : ∀ a, (κ a).1 ≠ 0 → a ≠ w → κ4481 a = κ a := fun a h1 h9 => by rw [hκ4481, kp_n h9]; exact hKW a h1 h9
      have hw1 : (κ4481 w).2.2.1 = 0 := by rw [hκ4481, kp_a]; exact hw1
      have ewq : (κ4481 w).2.2.2 = q4477 := by rw [hκ4481, kp_a]
      have hsf : (κ (κ4481 w).2.2.2).1 = 0 := by rw [ewq]; exact hsf
      have hs0 : ¬ (κ4481 w).2.2.2 = 0 := by rw [ewq]; exact hq0
      have hsu : T2 κ4481 (κ4481 w).2.2.2 7 11 := by rw [ewq]; exact hxf4481.t2 hqO (by decide)
      have hp1 : (κ4481 (κ4481 w).2.2.2).2.2.1 ≠ 1 := by rw [ewq, hκ4481, kp_n hqw, ekq4477]; decide
      refine lv_aload_n hx hb dX5_read_77 rfl (lv_at hl 0 rfl) ?_
      refine lv_bipush (v := 59) hx hb dX5_read_78 (by decide) ?_
      refine cv_i (As := [.int 59]) (rest := []) (b := w) ⟨hx, hb, hml, hown, hts⟩ (c_X5_takeMark hT (w := w) hw (x := 59)) (cwV 1 hts gX5_read_X5_takeMark rfl rfl rfl hdX5_takeMark_v ⟨Nat.le_of_ble_eq_true rfl, Nat.le_of_ble_eq_true rfl⟩) hN hE hL (rcv6 hN hT hw.1) rfl rfl hl.1 (Nat.le_of_ble_eq_true rfl) dX5_read_80 (show 5 + 0 ≤ 11 by omega) (show ((0 + 8) + 88) + 0 ≤ 1332 by omega) (fun r4482 H1 locs hL hqr4482 => ?_)
      obtain ⟨hT1, hF1, hqr4482⟩ := hqr4482
      have hF := hF.tr ((hF1.kf hKF).mono (by simp))
      have hT := hT1
      rcases hqr4482 with rfl | rfl
      · refine lv_if_ne (tgt := 88) hx hb dX5_read_83 (by decide) (fun c9 => absurd (by decide) c9) (fun _ => ?_)
        refine lv_null hx hb dX5_read_86 ?_
        refine W.know (fun hg => ?_)
        rw [hH0] at hg
        exact en_n hx hb hr hlocks (by first | exact Or.inl ⟨_, rfl⟩ | exact Or.inr ⟨_, rfl⟩) hL (show 5 ≤ 11 by omega) (show ((0 + 8) + 88) ≤ 1332 by omega) (Or.inl rfl) dX5_read_87 (⟨κ4481, (fun a h1 h2 _ => hKW a h1 h2), (fun a h1 => (hKF a h1).1), hw, hw1, hT, hF, hg.mono (by omega) (by omega), Or.inl rfl⟩)
      · refine lv_if_ne (tgt := 88) hx hb dX5_read_83 (by decide) (fun _ => ?_) (fun c9 => absurd c9 (by decide))
        refine lv_iconst (v := 0) hx hb dX5_read_88 (by decide) ?_
        refine lv_istore_n (lv' := [(2, .int 0), (0, .ref w), (1, .int (nI n))]) hx hb dX5_read_89 rfl hl (by decide) rfl (fun ls hl => ?_)
        refine W.know (fun hg => ?_)
        rw [hH0] at hg
        have hgg : GG9 κ4481 w H0 _ := Or.inl ⟨hp1, hg.mono (by omega) (by omega)⟩
        refine W.tight (k := 8) (n := 714) (by rw [hH0]; exact hgg.all) ?_
        refine lp_m (α := Nat × KM) (nL := 3) (fun a9 => 600 - a9.1) (fun a9 H9 l9 => (a9.1 ≤ 600) ∧ (∀ a, (κ a).1 ≠ 0 → a ≠ w → a9.2 a = κ a) ∧ (KF κ a9.2) ∧ (T2 a9.2 w 6 10) ∧ ((a9.2 w).2.2.1 = 0) ∧ ((κ (a9.2 w).2.2.2).1 = 0) ∧ (¬ (a9.2 w).2.2.2 = 0) ∧ (T2 a9.2 (a9.2 w).2.2.2 7 11) ∧ (GG9 a9.2 w H0 H9) ∧ (WT B0 D cs T a9.2 H9) ∧ (Fr B0 [10, 11] κ H0 H9) ∧ (OkL B0 l9)) (fun a9 => [(2, .int (nI a9.1)), (0, .ref w)]) ?_ (0, κ4481) _ _ _ ⟨(by show (0) ≤ 600; omega), hKW, hKF, hw, hw1, hsf, hs0, hsu, hgg, hT, hF, hL⟩ (lv_sub hl [0, 1] rfl)
        rintro ⟨k, κ9⟩ H locs ls ih4483 ⟨hk, hKW, hKF, hw, hw1, hsf, hs0, hsu, hgg, hT, hF, hL⟩ hl
        have hl : lv_has ls 3 [(2, .int (nI k)), (0, .ref w)] := hl
        have hk : k ≤ 600 := hk
        have hKW : ∀ a, (κ a).1 ≠ 0 → a ≠ w → κ9 a = κ a := hKW
        have hKF : KF κ κ9 := hKF
        have hw : T2 κ9 w 6 10 := hw
        have hw1 : (κ9 w).2.2.1 = 0 := hw1
        have hsf : (κ (κ9 w).2.2.2).1 = 0 := hsf
        have hs0 : ¬ (κ9 w).2.2.2 = 0 := hs0
        have hsu : T2 κ9 (κ9 w).2.2.2 7 11 := hsu
        have hgg : GG9 κ9 w H0 H := hgg
        have hT : WT B0 D cs T κ9 _ := hT
        refine lv_iload_n hx hb dX5_read_90 rfl (lv_at hl 0 rfl) ?_
        refine lv_sipush (v := 600) hx hb dX5_read_91 (by decide) ?_
        refine lv_icmp_ge (tgt := 128) hx hb dX5_read_94 (by decide) (fun c4484 => ?_) (fun c4484 => ?_)
        · have c4484 : 600 ≤ k := (nI_leI (a := 600) (b := k) (by omega) (by omega)).mp c4484
          refine lv_aload_n hx hb dX5_read_128 rfl (lv_at hl 1 rfl) ?_
          obtain ⟨hb4485, e4485, hat4485, hk4485⟩ := hT.o6 hw.1
          obtain ⟨f4485_0, f4485_2, f4485_3, f4485_4, f4485_5, f4485_6, f4485_7, f4485_8, f4485_9, f4485_10, f4485_11, f4485_12, f4485_13, rfl, c4485_1, c4485_2, c4485_3, c4485_5, c4485_10, t4485_0, t4485_9, c4485_11, c4485_p2⟩ := hk4485
          obtain rfl : f4485_11 = .ref (κ9 w).2.2.2 := c4485_p2.resolve_left hs0
          have hP : va_P D vwCl [(w, .inr (5, [.ref f4485_0, .int (nI ((κ9 w).2.2.1)), .int (nI f4485_2), .int (nI f4485_3), .int f4485_4, .int (nI f4485_5), .int f4485_6, .int f4485_7, .int f4485_8, .ref f4485_9, .int (nI f4485_10), .ref (κ9 w).2.2.2, .int f4485_12, .int f4485_13]))] _ := va_P.cons hat4485 va_P.nil
          refine va_get (D := D) (ci := 5) (v := .ref (κ9 w).2.2.2) (C := RX5) (T := TX5) (N := 14) hx hb hts iX5_read_5 hown hN.1 hP 0 rfl rfl 11 (by decide) (hts _ mX5_read_18) (fun _ h9 => h9) rfl dX5_read_129 ?_
          refine cv_v (As := []) (rest := []) (b := (κ9 w).2.2.2) ⟨hx, hb, hml, hown, hts⟩ (KC.grv (c_X6_fillIn hT (w := (κ9 w).2.2.2) hsu)) (cwV 0 hts gX5_read_X6_fillIn rfl rfl rfl hdX6_fillIn_v ⟨Nat.le_of_ble_eq_true rfl, Nat.le_of_ble_eq_true rfl⟩) hN hE hL (rcv7 hN hT hsu.1) rfl rfl hl.1 (Nat.le_of_ble_eq_true rfl) dX5_read_132 (show 8 + 0 ≤ 11 by omega) (show 714 + 0 ≤ 1332 by omega) (fun H1 locs hL hqr4486 => ?_)
          obtain ⟨hgr4486, hqr4486⟩ := hqr4486
          obtain ⟨hT1, hF1⟩ := hqr4486
          have hP : va_P D vwCl [(w, .inr (5, [.ref f4485_0, .int (nI ((κ9 w).2.2.1)), .int (nI f4485_2), .int (nI f4485_3), .int f4485_4, .int (nI f4485_5), .int f4485_6, .int f4485_7, .int f4485_8, .ref f4485_9, .int (nI f4485_10), .ref (κ9 w).2.2.2, .int f4485_12, .int f4485_13]))] _ := hF1.hP (hP.sub [0] rfl) (fa_c ⟨by rw [hw.1]; decide, by rw [hw.2]; first | decide | (simp; done) | (simp; omega)⟩ fa_n)
          have hF := hF.tr ((hF1.kf hKF).mono (by simp))
          have hT := hT1
          have hgg : GG9 κ9 w H0 _ := hgg.gr hgr4486
          refine lv_aload_n hx hb dX5_read_135 rfl (lv_at hl 1 rfl) ?_
          refine va_get (D := D) (ci := 5) (v := .ref (κ9 w).2.2.2) (C := RX5) (T := TX5) (N := 14) hx hb hts iX5_read_5 hown hN.1 hP 0 rfl rfl 11 (by decide) (hts _ mX5_read_18) (fun _ h9 => h9) rfl dX5_read_136 ?_
          refine W.know (fun hg => ?_)
          rw [hH0] at hg
          exact en_n hx hb hr hlocks (by first | exact Or.inl ⟨_, rfl⟩ | exact Or.inr ⟨_, rfl⟩) hL (show 8 ≤ 11 by omega) (show 714 ≤ 1332 by omega) (Or.inr ⟨_, rfl⟩) dX5_read_139 (⟨ro κ9, (fun a h1 h2 h3 => by rw [ro_n (by rw [hKW a h1 h2]; exact h3)]; exact hKW a h1 h2), (fun a h1 => (hKF a h1).1), (by rw [T2, ro_n (by rw [hw.2]; decide)]; exact hw), (by rw [ro_n (by rw [hw.2]; decide)]; exact hw1), hT.re, hF, hgg.all, Or.inr ⟨_, rfl, ro_t hsu⟩⟩)
        · have c4484 : ¬ 600 ≤ k := fun h9 => c4484 ((nI_leI (a := 600) (b := k) (by omega) (by omega)).mpr h9)
          refine lv_aload_n hx hb dX5_read_97 rfl (lv_at hl 1 rfl) ?_
          obtain ⟨hb4487, e4487, hat4487, hk4487⟩ := hT.o6 hw.1
          obtain ⟨f4487_0, f4487_2, f4487_3, f4487_4, f4487_5, f4487_6, f4487_7, f4487_8, f4487_9, f4487_10, f4487_11, f4487_12, f4487_13, rfl, c4487_1, c4487_2, c4487_3, c4487_5, c4487_10, t4487_0, t4487_9, c4487_11, c4487_p2⟩ := hk4487
          obtain rfl : f4487_11 = .ref (κ9 w).2.2.2 := c4487_p2.resolve_left hs0
          have hP : va_P D vwCl [(w, .inr (5, [.ref f4487_0, .int (nI ((κ9 w).2.2.1)), .int (nI f4487_2), .int (nI f4487_3), .int f4487_4, .int (nI f4487_5), .int f4487_6, .int f4487_7, .int f4487_8, .ref f4487_9, .int (nI f4487_10), .ref (κ9 w).2.2.2, .int f4487_12, .int f4487_13]))] _ := va_P.cons hat4487 va_P.nil
          refine va_get (D := D) (ci := 5) (v := .int f4487_4) (C := RX5) (T := TX5) (N := 14) hx hb hts iX5_read_5 hown hN.1 hP 0 rfl rfl 4 (by decide) (hts _ mX5_read_19) (fun _ h9 => h9) rfl dX5_read_98 ?_
          refine lv_if_eq (tgt := 128) hx hb dX5_read_101 (by decide) (fun c4488 => ?_) (fun c4488 => ?_)
          · refine lv_aload_n hx hb dX5_read_128 rfl (lv_at hl 1 rfl) ?_
            refine va_get (D := D) (ci := 5) (v := .ref (κ9 w).2.2.2) (C := RX5) (T := TX5) (N := 14) hx hb hts iX5_read_5 hown hN.1 hP 0 rfl rfl 11 (by decide) (hts _ mX5_read_18) (fun _ h9 => h9) rfl dX5_read_129 ?_
            refine cv_v (As := []) (rest := []) (b := (κ9 w).2.2.2) ⟨hx, hb, hml, hown, hts⟩ (KC.grv (c_X6_fillIn hT (w := (κ9 w).2.2.2) hsu)) (cwV 0 hts gX5_read_X6_fillIn rfl rfl rfl hdX6_fillIn_v ⟨Nat.le_of_ble_eq_true rfl, Nat.le_of_ble_eq_true rfl⟩) hN hE hL (rcv7 hN hT hsu.1) rfl rfl hl.1 (Nat.le_of_ble_eq_true rfl) dX5_read_132 (show 8 + 0 ≤ 11 by omega) (show 714 + 0 ≤ 1332 by omega) (fun H1 locs hL hqr4489 => ?_)
            obtain ⟨hgr4489, hqr4489⟩ := hqr4489
            obtain ⟨hT1, hF1⟩ := hqr4489
            have hP : va_P D vwCl [(w, .inr (5, [.ref f4487_0, .int (nI ((κ9 w).2.2.1)), .int (nI f4487_2), .int (nI f4487_3), .int f4487_4, .int (nI f4487_5), .int f4487_6, .int f4487_7, .int f4487_8, .ref f4487_9, .int (nI f4487_10), .ref (κ9 w).2.2.2, .int f4487_12, .int f4487_13]))] _ := hF1.hP (hP.sub [0] rfl) (fa_c ⟨by rw [hw.1]; decide, by rw [hw.2]; first | decide | (simp; done) | (simp; omega)⟩ fa_n)
            have hF := hF.tr ((hF1.kf hKF).mono (by simp))
            have hT := hT1
            have hgg : GG9 κ9 w H0 _ := hgg.gr hgr4489
            refine lv_aload_n hx hb dX5_read_135 rfl (lv_at hl 1 rfl) ?_
            refine va_get (D := D) (ci := 5) (v := .ref (κ9 w).2.2.2) (C := RX5) (T := TX5) (N := 14) hx hb hts iX5_read_5 hown hN.1 hP 0 rfl rfl 11 (by decide) (hts _ mX5_read_18) (fun _ h9 => h9) rfl dX5_read_136 ?_
            refine W.know (fun hg => ?_)
            rw [hH0] at hg
            exact en_n hx hb hr hlocks (by first | exact Or.inl ⟨_, rfl⟩ | exact Or.inr ⟨_, rfl⟩) hL (show 8 ≤ 11 by omega) (show 714 ≤ 1332 by omega) (Or.inr ⟨_, rfl⟩) dX5_read_139 (⟨ro κ9, (fun a h1 h2 h3 => by rw [ro_n (by rw [hKW a h1 h2]; exact h3)]; exact hKW a h1 h2), (fun a h1 => (hKF a h1).1), (by rw [T2, ro_n (by rw [hw.2]; decide)]; exact hw), (by rw [ro_n (by rw [hw.2]; decide)]; exact hw1), hT.re, hF, hgg.all, Or.inr ⟨_, rfl, ro_t hsu⟩⟩)
          · refine lv_aload_n hx hb dX5_read_104 rfl (lv_at hl 1 rfl) ?_
            refine cv_i (As := []) (rest := []) (b := w) ⟨hx, hb, hml, hown, hts⟩ (c_X5_readStatement hT (w := w) hw (by first | omega | decide | assumption) (by first | omega | decide | assumption)) (cwV 0 hts gX5_read_X5_readStatement rfl rfl rfl hdX5_readStatement_v ⟨Nat.le_of_ble_eq_true rfl, Nat.le_of_ble_eq_true rfl⟩) hN hE hL (rcv6 hN hT hw.1) rfl rfl hl.1 (Nat.le_of_ble_eq_true rfl) dX5_read_105 (show 8 + 3 ≤ 11 by omega) (show 714 + 618 ≤ 1332 by omega) (fun r4490 H1 locs hL hqr4490 => ?_)
            obtain ⟨κr4490, hxr4490, hT1, hF1, hsr4490, hqr4490⟩ := hqr4490
            have hF := hF.tr ((hF1.kf hKF).mono (by simp))
            have hT := hT1
            have hxfr4490 := KSF hxr4490 hsu hsr4490
            have ew9 : κr4490 w = κ9 w := hxr4490 w (by rw [hw.1]; decide) (ne_c hw.1 hsu.1 (by decide))
            have hKW : ∀ a, (κ a).1 ≠ 0 → a ≠ w → κr4490 a = κ a := fun a h1 h2 => (hxr4490 a (by rw [hKW a h1 h2]; exact h1) (fun e9 => h1 (by rw [e9]; exact hsf))).trans (hKW a h1 h2)
            obtain ⟨hgs, hqr4490⟩ := hqr4490
            have hgg : GG9 κr4490 w H0 _ := hgg.step ew9 hgs
            have hsf : (κ (κr4490 w).2.2.2).1 = 0 := by rw [ew9]; exact hsf
            have hs0 : ¬ (κr4490 w).2.2.2 = 0 := by rw [ew9]; exact hs0
            have hsu : T2 κr4490 (κr4490 w).2.2.2 7 11 := by rw [ew9]; exact hsr4490
            have hw1 : (κr4490 w).2.2.1 = 0 := by rw [ew9]; exact hw1
            have hKF := hKF.tr hxfr4490
            have hw := (KF.t2 hxfr4490 hw (by decide))
            rcases hqr4490 with rfl | rfl
            · refine lv_if_eq (tgt := 120) hx hb dX5_read_108 (by decide) (fun _ => ?_) (fun c9 => absurd (by decide) c9)
              refine lv_null hx hb dX5_read_120 ?_
              refine W.know (fun hg => ?_)
              rw [hH0] at hg
              exact en_n hx hb hr hlocks (by first | exact Or.inl ⟨_, rfl⟩ | exact Or.inr ⟨_, rfl⟩) hL (show 11 ≤ 11 by omega) (show (714 + 618) ≤ 1332 by omega) (Or.inl rfl) dX5_read_121 (⟨κr4490, (fun a h1 h2 _ => hKW a h1 h2), (fun a h1 => (hKF a h1).1), hw, hw1, hT, hF, hgg.all, Or.inl rfl⟩)
            · refine lv_if_eq (tgt := 120) hx hb dX5_read_108 (by decide) (fun c9 => absurd c9 (by decide)) (fun _ => ?_)
              refine lv_aload_n hx hb dX5_read_111 rfl (lv_at hl 1 rfl) ?_
              refine lv_bipush (v := 59) hx hb dX5_read_112 (by decide) ?_
              refine cv_i (As := [.int 59]) (rest := []) (b := w) ⟨hx, hb, hml, hown, hts⟩ (KC.gri (c_X5_takeMark hT (w := w) hw (x := 59))) (cwV 1 hts gX5_read_X5_takeMark rfl rfl rfl hdX5_takeMark_v ⟨Nat.le_of_ble_eq_true rfl, Nat.le_of_ble_eq_true rfl⟩) hN hE hL (rcv6 hN hT hw.1) rfl rfl hl.1 (Nat.le_of_ble_eq_true rfl) dX5_read_114 (show 11 + 0 ≤ 11 by omega) (show (714 + 618) + 0 ≤ 1332 by omega) (fun r4491 H1 locs hL hqr4491 => ?_)
              obtain ⟨hgr4491, hqr4491⟩ := hqr4491
              obtain ⟨hT1, hF1, hqr4491⟩ := hqr4491
              have hF := hF.tr ((hF1.kf hKF).mono (by simp))
              have hT := hT1
              have hgg : GG9 κr4490 w H0 _ := hgg.gr hgr4491
              rcases hqr4491 with rfl | rfl
              · refine lv_if_ne (tgt := 122) hx hb dX5_read_117 (by decide) (fun c9 => absurd (by decide) c9) (fun _ => ?_)
                refine lv_null hx hb dX5_read_120 ?_
                refine W.know (fun hg => ?_)
                rw [hH0] at hg
                exact en_n hx hb hr hlocks (by first | exact Or.inl ⟨_, rfl⟩ | exact Or.inr ⟨_, rfl⟩) hL (show 11 ≤ 11 by omega) (show (714 + 618) ≤ 1332 by omega) (Or.inl rfl) dX5_read_121 (⟨κr4490, (fun a h1 h2 _ => hKW a h1 h2), (fun a h1 => (hKF a h1).1), hw, hw1, hT, hF, hgg.all, Or.inl rfl⟩)
              · refine lv_if_ne (tgt := 122) hx hb dX5_read_117 (by decide) (fun _ => ?_) (fun c9 => absurd c9 (by decide))
                refine lv_iinc (v := (nI (k + 1))) (lv' := [(2, .int (nI (k + 1))), (0, .ref w)]) hx hb dX5_read_122 hl (k := 0) rfl (nI_add _ 1) (by decide) rfl (fun ls hl => ?_)
                refine lv_goto (tgt := 90) hx hb dX5_read_125 (by decide) ?_
                refine W.tight (k := 8) (n := 714) (by rw [hH0]; exact hgg.all) ?_
                exact ih4483 ((k + 1), κr4490) _ _ _ (by show 600 - ((k + 1)) < 600 - k; omega) ⟨(by show ((k + 1)) ≤ 600; omega), hKW, hKF, hw, hw1, hsf, hs0, hsu, hgg, hT, hF, hL⟩ (lv_sub hl [0, 1] rfl)
