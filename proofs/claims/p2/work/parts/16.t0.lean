theorem mJ7_copyOf_59c91_7 : (.arrayClass .int : Cond) ∈ wsJ7_copyOf_59c91 := List.mem_of_getElem? (i := 7) (by decide +kernel)
theorem mJ7_copyOf_59c91_8 : (.methodLink RJ7 304 Lib.Math.min.name : Cond) ∈ wsJ7_copyOf_59c91 := List.mem_of_getElem? (i := 8) (by decide +kernel)
theorem mJ7_copyOf_59c91_9 : (.static Lib.Math.min.name : Cond) ∈ wsJ7_copyOf_59c91 := List.mem_of_getElem? (i := 9) (by decide +kernel)
theorem mJ7_copyOf_59c91_10 : (.initialized "java/lang/Math" : Cond) ∈ wsJ7_copyOf_59c91 := List.mem_of_getElem? (i := 10) (by decide +kernel)
theorem mJ7_copyOf_59c91_11 : (.code Lib.Math.min.name Lib.Math.min.code 2 (some .int) : Cond) ∈ wsJ7_copyOf_59c91 := List.mem_of_getElem? (i := 11) (by decide +kernel)
theorem mJ7_copyOf_59c91_12 : (.methodLink RJ7 150 arraycopyName : Cond) ∈ wsJ7_copyOf_59c91 := List.mem_of_getElem? (i := 12) (by decide +kernel)
theorem mJ7_copyOf_59c91_13 : (.native arraycopyName : Cond) ∈ wsJ7_copyOf_59c91 := List.mem_of_getElem? (i := 13) (by decide +kernel)
theorem mJ7_copyOf_59c91_14 : (.static arraycopyName : Cond) ∈ wsJ7_copyOf_59c91 := List.mem_of_getElem? (i := 14) (by decide +kernel)
theorem mJ7_copyOf_59c91_15 : (.initialized "java/lang/System" : Cond) ∈ wsJ7_copyOf_59c91 := List.mem_of_getElem? (i := 15) (by decide +kernel)
theorem mJ7_copyOf_59c91_1 : (.methodLink RJ7 316 ⟨"[I", "clone", "()Ljava/lang/Object;"⟩ : Cond) ∈ wsJ7_copyOf_59c91 := List.mem_of_getElem? (i := 1) (by decide +kernel)
theorem mJ7_copyOf_59c91_2 : (.sameMethod "[I" "java/lang/Object" "clone" "()Ljava/lang/Object;" : Cond) ∈ wsJ7_copyOf_59c91 := List.mem_of_getElem? (i := 2) (by decide +kernel)
theorem mJ7_copyOf_59c91_3 : (.native ⟨"java/lang/Object", "clone", "()Ljava/lang/Object;"⟩ : Cond) ∈ wsJ7_copyOf_59c91 := List.mem_of_getElem? (i := 3) (by decide +kernel)
theorem mJ7_copyOf_59c91_4 : (.instanceMethod ⟨"java/lang/Object", "clone", "()Ljava/lang/Object;"⟩ : Cond) ∈ wsJ7_copyOf_59c91 := List.mem_of_getElem? (i := 4) (by decide +kernel)
theorem mJ7_copyOf_59c91_5 : (.selects "[I" ⟨"[I", "clone", "()Ljava/lang/Object;"⟩ ⟨"java/lang/Object", "clone", "()Ljava/lang/Object;"⟩ : Cond) ∈ wsJ7_copyOf_59c91 := List.mem_of_getElem? (i := 5) (by decide +kernel)
theorem mJ7_copyOf_59c91_6 : (.classLink RJ7 317 "[I" : Cond) ∈ wsJ7_copyOf_59c91 := List.mem_of_getElem? (i := 6) (by decide +kernel)
set_option maxHeartbeats 4000000 in
set_option maxRecDepth 100000 in
theorem c_J7_copyOf_59c91 {l : Launch} {D : va_G} {cs : Nat → ClassId} {B0 : Nat} {H0 : Heap} {v n : Nat} {g : Nat → Int32} (hvb : B0 ≤ v) (hva : va_at D vwCl (v, .inl (cs 0, 600, .inl g)) H0) (hn : n ≤ 600) : KC l yJ7_copyOf_59c91 wsJ7_copyOf_59c91 1 60 1 600 D cs B0 H0 [.ref v, .int (nI n)] (Qr (fun r H => r = H0.size ∧ H.size = r + 1 ∧ (∀ x, x < r → H[x]? = H0[x]?) ∧ ∃ f, va_at D vwCl (r, .inl (cs 0, n, .inl f)) H)) := by
  refine KC.of cJ7_copyOf_59c91 3 (some (.array .int)) (by decide) rfl (Nat.le_of_ble_eq_true rfl) ?_
  intro p e s m below meth c ls hx hb hr hml hown hts hlocks hin hN hE hH0 hl
  have hown : s.vm.findClass RJ7 = some m.cls := hown
  have hl : lv_has ls 3 [(0, .ref v), (1, .int (nI n))] := hl
  have hL : OkL B0 [] := OkL.nil
  have hP : va_P D vwCl [(v, .inl (cs 0, 600, .inl g))] _ := va_P.cons hva va_P.nil
  have hb0 : B0 ≤ H0.size := Nat.le_trans hvb (Nat.le_of_lt hva.lt)
  refine lv_iload_n hx hb dJ7_copyOf_59c91_0 rfl (lv_at hl 1 rfl) ?_
  refine lv_aload_n hx hb dJ7_copyOf_59c91_1 rfl (lv_at hl 0 rfl) ?_
  refine va_alen (v := 600) hx hb hN.1 hP 0 0 rfl rfl rfl dJ7_copyOf_59c91_2 ?_
  refine lv_icmp_ne (tgt := 14) hx hb dJ7_copyOf_59c91_3 (by decide) (fun c5442 => ?_) (fun c5442 => ?_)
  · have c5442 : ¬ n = 600 := fun h9 => c5442 ((nI_eq (a := n) (b := 600) (by omega) (by omega)).mpr h9)
    refine lv_iload_n hx hb dJ7_copyOf_59c91_14 rfl (lv_at hl 1 rfl) ?_
    have hB : Bx B0 D _ [(v, .inl (cs 0, 600, .inl g))] [] _ _ := Bx.of (fun a => a) hL hP (fa_c hvb fa_n) (by simp)
    refine nw_a (atype := .int) (ty := .int) (N' := n) (a0 := (n, .inl (fun _ => 0))) 0 hN rfl hx hb (hts _ mJ7_copyOf_59c91_7) rfl (fun _ => rfl) (nI_pos (n := n) (by omega)) (nI_clamp (n := n) (by omega)) (show n * _ ≤ _ by simp only [componentBytes]; omega) (show 0 + 1 ≤ 1 by omega) (show 0 + n ≤ 600 by omega) dJ7_copyOf_59c91_15 (fun q5443 H heq5443 hzq5443 hoq5443 hatq5443 => ?_)
    have hB := hB.nwm heq5443 hzq5443 hoq5443 hatq5443 hb0
    have hB : Bx B0 D _ [(v, .inl (cs 0, 600, .inl g)), (q5443, .inl (cs 0, n, .inl (fun _ => 0)))] [q5443] _ _ := hB
    refine lv_astore_n (lv' := [(2, .ref q5443), (0, .ref v), (1, .int (nI n))]) hx hb dJ7_copyOf_59c91_17 rfl hl (by decide) rfl (fun ls hl => ?_)
    refine lv_aload_n hx hb dJ7_copyOf_59c91_18 rfl (lv_at hl 1 rfl) ?_
    refine lv_iconst (v := 0) hx hb dJ7_copyOf_59c91_19 (by decide) ?_
    refine lv_aload_n hx hb dJ7_copyOf_59c91_20 rfl (lv_at hl 0 rfl) ?_
    refine lv_iconst (v := 0) hx hb dJ7_copyOf_59c91_21 (by decide) ?_
    refine lv_aload_n hx hb dJ7_copyOf_59c91_22 rfl (lv_at hl 1 rfl) ?_
    refine va_alen (v := 600) hx hb hN.1 hB.1 0 0 rfl rfl rfl dJ7_copyOf_59c91_23 ?_
    refine lv_iload_n hx hb dJ7_copyOf_59c91_24 rfl (lv_at hl 2 rfl) ?_
    refine va_mmin hx hb (hml.trans hl.1.symm) hown (hts _ mJ7_copyOf_59c91_8) (hts _ mJ7_copyOf_59c91_9) (hts _ mJ7_copyOf_59c91_10) (hts _ mJ7_copyOf_59c91_11) (Nat.le_of_ble_eq_true rfl) (Nat.le_of_ble_eq_true rfl) (show 1 ≤ 1 by omega) (show (0 + n) ≤ 600 by omega) dJ7_copyOf_59c91_25 ?_
    obtain ⟨m5444, hm5444, em5444⟩ := nI_min (a := 600) (b := n) (by omega) (by omega)
    refine tp_i (nI m5444) em5444 ?_
    refine b_cpy hx hb (hml.trans hl.1.symm) hown (hts _ mJ7_copyOf_59c91_12) (hts _ mJ7_copyOf_59c91_13) (hts _ mJ7_copyOf_59c91_14) (hts _ mJ7_copyOf_59c91_15) hN hB 0 1 rfl rfl (nI_pos (n := 0) (by omega)) (nI_pos (n := 0) (by omega)) (nI_pos (n := m5444) (by omega)) (by rw [show (0 : Int32).toNatClampNeg = 0 from nI_clamp (n := 0) (by omega), show ((nI m5444) : Int32).toNatClampNeg = m5444 from nI_clamp (n := m5444) (by omega)]; omega) (by rw [show (0 : Int32).toNatClampNeg = 0 from nI_clamp (n := 0) (by omega), show ((nI m5444) : Int32).toNatClampNeg = m5444 from nI_clamp (n := m5444) (by omega)]; omega) (.inr ⟨rfl, List.mem_of_getElem? (i := 0) rfl⟩) (Nat.le_of_ble_eq_true rfl) (Nat.le_of_ble_eq_true rfl) dJ7_copyOf_59c91_28 (fun H locs hB => ?_)
    generalize va_cpy _ _ _ _ _ = g5445 at hB
    have hB : Bx B0 D _ [(v, .inl (cs 0, 600, .inl g)), (q5443, .inl (cs 0, n, .inl g5445))] [q5443] _ _ := hB
    refine lv_aload_n hx hb dJ7_copyOf_59c91_31 rfl (lv_at hl 0 rfl) ?_
    have hL : OkL B0 _ := hB.2.2.2.2.2
    refine W.know (fun hg => ?_)
    rw [hH0] at hg
    exact en_r hx hb hr hlocks (by first | exact Or.inl ⟨_, rfl⟩ | exact Or.inr ⟨_, rfl⟩) hL (show 1 ≤ 1 by omega) (show (0 + n) ≤ 600 by omega) dJ7_copyOf_59c91_32 (⟨heq5443, (by have h1 := hg.2.1; have h2 := (hB.1 1 _ rfl).lt; have h2 : q5443 < _ := h2; omega), (fun x hx9 => hB.2.2.2.1 x (by omega) (by simp; omega)), _, hB.1 1 _ rfl⟩)
  · have c5442 : n = 600 := (nI_eq (a := n) (b := 600) (by omega) (by omega)).mp c5442
    refine lv_aload_n hx hb dJ7_copyOf_59c91_6 rfl (lv_at hl 0 rfl) ?_
    refine nw_cl hx hb (hml.trans hl.1.symm) hown (hts _ mJ7_copyOf_59c91_1) (hts _ mJ7_copyOf_59c91_2) (hts _ mJ7_copyOf_59c91_3) (hts _ mJ7_copyOf_59c91_4) (hts _ mJ7_copyOf_59c91_5) hN (hP 0 _ rfl) (Nat.le_of_ble_eq_true rfl) (Nat.le_of_ble_eq_true rfl) (show 0 + 1 ≤ 1 by omega) (show 0 + 600 ≤ 600 by omega) dJ7_copyOf_59c91_7 (fun q5446 H heq5446 hzq5446 hoq5446 hatq5446 => ?_)
    refine nw_ca hx hb hown (hts _ mJ7_copyOf_59c91_6) hN hatq5446 dJ7_copyOf_59c91_10 ?_
    refine W.know (fun hg => ?_)
    rw [hH0] at hg
    obtain rfl : n = 600 := c5442
    exact en_r hx hb hr hlocks (by first | exact Or.inl ⟨_, rfl⟩ | exact Or.inr ⟨_, rfl⟩) hL (show 1 ≤ 1 by omega) (show (0 + 600) ≤ 600 by omega) dJ7_copyOf_59c91_13 (⟨heq5446, hzq5446, hoq5446, _, hatq5446⟩)
theorem mX0_init_1 : (.methodLink RX0 1 objectInit : Cond) ∈ wsX0_init := List.mem_of_getElem? (i := 1) (by decide +kernel)
theorem mX0_init_2 : (.instanceMethod objectInit : Cond) ∈ wsX0_init := List.mem_of_getElem? (i := 2) (by decide +kernel)
theorem mX0_init_3 : (.code objectInit ⟨#[0xb1]⟩ 1 none : Cond) ∈ wsX0_init := List.mem_of_getElem? (i := 3) (by decide +kernel)
theorem mX0_init_4 : (.arrayClass .int : Cond) ∈ wsX0_init := List.mem_of_getElem? (i := 4) (by decide +kernel)
theorem mX0_init_5 : (.fieldLink RX0 9 "OneBeat$Formula" "stack" "[I" : Cond) ∈ wsX0_init := List.mem_of_getElem? (i := 5) (by decide +kernel)
theorem iX0_init_0 : ∀ w ∈ wsX00, w ∈ wsX0_init := fun w h => List.mem_of_mem_drop (List.mem_of_mem_take ((show wsX00 = (wsX0_init.drop 25).take 2 by decide +kernel) ▸ h))
theorem hdJ7_copyOf_59c91_o : yJ7_copyOf_59c91.cls ≠ "java/lang/invoke/MethodHandle" ∧ yJ7_copyOf_59c91.cls ≠ "java/lang/invoke/VarHandle" ∧ (parseMethodDescriptor yJ7_copyOf_59c91.desc).map (fun d => d.parameters.length) = some 2 := by decide +kernel
theorem mX0_init_6 : (.fieldLink RX0 19 "OneBeat$Formula" "codes" "[I" : Cond) ∈ wsX0_init := List.mem_of_getElem? (i := 6) (by decide +kernel)
set_option maxHeartbeats 4000000 in
set_option maxRecDepth 100000 in
theorem c_X0_init {l : Launch} {D : va_G} {cs : Nat → ClassId} {B0 T : Nat} {κ : KM} {H0 : Heap} (hT : WT B0 D cs T κ H0) {w : Nat} (hfw : (κ w).1 = 0) (hwb : B0 ≤ w) (hwa : va_at D vwCl (w, .inr (0, [.null, .null])) H0) {v n : Nat} (hv : T2 κ v 17 10) (hn : n ≤ 600) : KC l yX0_init wsX0_init 2 82 2 616 D cs B0 H0 [.ref w, .ref v, .int (nI n)] (Qv (fun H => ∃ κ1, KX κ κ1 ∧ WT B0 D cs T κ1 H ∧ Fr B0 [] κ H0 H ∧ T2 κ1 w 1 15)) := by
  refine KC.of cX0_init 3 none (by decide) rfl (Nat.le_of_ble_eq_true rfl) ?_
  intro p e s m below meth c ls hx hb hr hml hown hts hlocks hin hN hE hH0 hl
  have hown : s.vm.findClass RX0 = some m.cls := hown
  have hl : lv_has ls 3 [(0, .ref w), (1, .ref v), (2, .int (nI n))] := hl
  have hL : OkL B0 [] := OkL.nil
  have hF : Fr B0 [] κ H0 H0 := Fr.rf
  have hP : va_P D vwCl [(w, .inr (0, [.null, .null]))] _ := va_P.cons hwa va_P.nil
  have hb0 : B0 ≤ H0.size := Nat.le_trans hwb (Nat.le_of_lt hwa.lt)
  refine lv_aload_n hx hb dX0_init_0 rfl (lv_at hl 0 rfl) ?_
  refine W.objInit hx hb hown (hts _ mX0_init_1) (hts _ mX0_init_2) (hts _ mX0_init_3) rfl (by rw [hml]; exact hl.1) rfl dX0_init_1 (Nat.le_of_ble_eq_true rfl) (Nat.le_of_ble_eq_true rfl) ?_
  refine W.eq (g2 := F0 m 4 ls []) rfl ?_
  refine lv_aload_n hx hb dX0_init_4 rfl (lv_at hl 0 rfl) ?_
  refine lv_bipush (v := 16) hx hb dX0_init_5 (by decide) ?_
  have hB : Bx B0 D _ [(w, .inr (0, [.null, .null]))] [] _ _ := Bx.of (fun a => (κ a).1) hL hP (fa_c hwb fa_n) (by simp only [List.map_cons, List.map_nil, hfw]; decide)
  refine nw_a (atype := .int) (ty := .int) (N' := 16) (a0 := (16, .inl (fun _ => 0))) 0 hN rfl hx hb (hts _ mX0_init_4) rfl (fun _ => rfl) (nI_pos (n := 16) (by omega)) (nI_clamp (n := 16) (by omega)) (show 16 * _ ≤ _ by simp only [componentBytes]; omega) (show 0 + 1 ≤ 2 by omega) (show 0 + 16 ≤ 616 by omega) dX0_init_7 (fun q5447 H heq5447 hzq5447 hoq5447 hatq5447 => ?_)
  have hgeq5447 : _ ≤ q5447 := Nat.le_trans hB.2.2.1 (Nat.le_of_eq heq5447.symm)
  have hbq5447 : B0 ≤ q5447 := Nat.le_trans hb0 hgeq5447
  have hfq5447 : (κ q5447).1 = 0 := hT.fresh hgeq5447
  have hB := hB.nwm heq5447 hzq5447 hoq5447 hatq5447 hb0
  have hB : Bx B0 D _ [(w, .inr (0, [.null, .null])), (q5447, .inl (cs 0, 16, .inl (fun _ => 0)))] [q5447] _ _ := hB
  refine b_putF (D := D) (ci := 0) (v := .ref q5447) (ty := .array .int) (C := RX0) (T := TX0) (N := 2) hx hb hts iX0_init_0 tyX0 tyX0_ok nmX0 hown hN hB 0 rfl rfl 1 (by decide) (hts _ mX0_init_5) (fun _ h9 => h9) rfl hin rfl (by decide +kernel) rfl rfl (Nat.le_of_ble_eq_true rfl) (.inl rfl) dX0_init_9 (fun H locs hB => ?_)
  have hB : Bx B0 D _ [(w, .inr (0, [.null, .ref q5447])), (q5447, .inl (cs 0, 16, .inl (fun _ => 0)))] [w, q5447] _ _ := hB
  refine lv_aload_n hx hb dX0_init_12 rfl (lv_at hl 0 rfl) ?_
  refine lv_aload_n hx hb dX0_init_13 rfl (lv_at hl 1 rfl) ?_
  refine lv_iload_n hx hb dX0_init_14 rfl (lv_at hl 2 rfl) ?_
  refine lv_if_ge (tgt := 22) hx hb dX0_init_15 (by decide) (fun c5448 => ?_) (fun c5448 => ?_)
  · have c5448 : 0 ≤ n := (nI_leI (a := 0) (b := n) (by omega) (by omega)).mp c5448
    refine lv_iload_n hx hb dX0_init_22 rfl (lv_at hl 2 rfl) ?_
    obtain ⟨hb5449, e5449, hat5449, hk5449⟩ := hT.o17 hv.1
    obtain ⟨g5449, rfl⟩ := hk5449
    have hB : Bx B0 D _ [(w, .inr (0, [.null, .ref q5447])), (q5447, .inl (cs 0, 16, .inl (fun _ => 0))), (v, .inl (cs 0, 600, .inl g5449))] [w, q5447] _ _ := hB.more hat5449 hb5449 (fa_c (ne_c hfw hv.1 (by decide))  (fa_c (nw_ne hat5449 hgeq5447) fa_n)) (fa_c (ne_c hfw hv.1 (by decide))  (fa_c (nw_ne hat5449 hgeq5447) fa_n))
    have hL : OkL B0 _ := hB.2.2.2.2.2
    refine cs_r (As := [.ref v, .int (nI n)]) (rest := [.ref w]) ⟨hx, hb, hml, hown, hts⟩ (c_J7_copyOf_59c91 (v := v) (n := n) hb5449 (hB.1 2 _ rfl) (by omega)) (va_cwS 2 hts gX0_init_J7_copyOf_59c91 rfl rfl rfl hdJ7_copyOf_59c91_o ⟨Nat.le_of_ble_eq_true rfl, Nat.le_of_ble_eq_true rfl⟩) hN hE hL rfl rfl hl.1 (Nat.le_of_ble_eq_true rfl) dX0_init_23 (show 1 + 1 ≤ 2 by omega) (show (0 + 16) + 600 ≤ 616 by omega) (fun q5450 H1 locs hL hqq5450 => ?_)
    obtain ⟨heq5450, hzq5450, hoq5450, gq5450, hatq5450⟩ := hqq5450
    have hB := hB.lc hL
    have hgeq5450 : _ ≤ q5450 := Nat.le_trans hB.2.2.1 (Nat.le_of_eq heq5450.symm)
    have hbq5450 : B0 ≤ q5450 := Nat.le_trans hb0 hgeq5450
    have hfq5450 : (κ q5450).1 = 0 := hT.fresh hgeq5450
    have hB := hB.nwm heq5450 hzq5450 hoq5450 hatq5450 hb0
    have hB : Bx B0 D _ [(w, .inr (0, [.null, .ref q5447])), (q5447, .inl (cs 0, 16, .inl (fun _ => 0))), (v, .inl (cs 0, 600, .inl g5449)), (q5450, .inl (cs 0, n, .inl gq5450))] [q5450, w, q5447] _ _ := hB
    refine b_putF (D := D) (ci := 0) (v := .ref q5450) (ty := .array .int) (C := RX0) (T := TX0) (N := 2) hx hb hts iX0_init_0 tyX0 tyX0_ok nmX0 hown hN hB 0 rfl rfl 0 (by decide) (hts _ mX0_init_6) (fun _ h9 => h9) rfl hin rfl (by decide +kernel) rfl rfl (Nat.le_of_ble_eq_true rfl) (.inr ⟨rfl, List.mem_of_getElem? (i := 1) rfl⟩) dX0_init_26 (fun H locs hB => ?_)
    have hB : Bx B0 D _ [(w, .inr (0, [.ref q5450, .ref q5447])), (q5447, .inl (cs 0, 16, .inl (fun _ => 0))), (v, .inl (cs 0, 600, .inl g5449)), (q5450, .inl (cs 0, n, .inl gq5450))] [q5450, w, q5447] _ _ := hB
    obtain ⟨κ5451, hκ5451⟩ : ∃ κq : KM, κq = (ku (ku (ku κ w (1, 15, 0, 0)) q5447 (22, 16, 0, 0)) q5450 (21, 15, 0, 0)) := ⟨_, rfl⟩
    have hx5451 : KX κ κ5451 := by rw [hκ5451]; exact (((KX.ku hfw).tr (KX.ku (by rw [ku_n (fun e9 => absurd (hB.2.1.1 1 0 _ _ rfl rfl e9) (by decide))]; exact hfq5447))).tr (KX.ku (by rw [ku_n (fun e9 => absurd (hB.2.1.1 3 1 _ _ rfl rfl e9) (by decide)), ku_n (fun e9 => absurd (hB.2.1.1 3 0 _ _ rfl rfl e9) (by decide))]; exact hfq5450)))
    have ew : κ5451 w = (1, 15, 0, 0) := by rw [hκ5451, ku_n (fun e9 => absurd (hB.2.1.1 0 3 _ _ rfl rfl e9) (by decide)), ku_n (fun e9 => absurd (hB.2.1.1 0 1 _ _ rfl rfl e9) (by decide)), ku_a]
    have hw : T2 κ5451 w 1 15 := ⟨by rw [ew], by rw [ew]⟩
    have eq5447 : κ5451 q5447 = (22, 16, 0, 0) := by rw [hκ5451, ku_n (fun e9 => absurd (hB.2.1.1 1 3 _ _ rfl rfl e9) (by decide)), ku_a]
    have hq5447 : T2 κ5451 q5447 22 16 := ⟨by rw [eq5447], by rw [eq5447]⟩
    have eq5450 : κ5451 q5450 = (21, 15, 0, 0) := by rw [hκ5451, ku_a]
    have hq5450 : T2 κ5451 q5450 21 15 := ⟨by rw [eq5450], by rw [eq5450]⟩
    have hx9 := hx5451
    have hT : WT B0 D cs T κ5451 _ := hT.closeN hB hx5451 (fun a9 h9 => by rw [hκ5451, ku_n (fun e9 => h9 (by rw [e9]; exact List.mem_of_getElem? (i := 0) rfl)), ku_n (fun e9 => h9 (by rw [e9]; exact List.mem_of_getElem? (i := 2) rfl)), ku_n (fun e9 => h9 (by rw [e9]; exact List.mem_of_getElem? (i := 1) rfl))]) ⟨⟨3, _, rfl, ok_21 hq5450.1 ⟨_, _, rfl, (by omega)⟩⟩, ⟨⟨0, _, rfl, ok_1 hw.1 ⟨_, _, rfl, hq5450, hq5447⟩⟩, ⟨⟨1, _, rfl, ok_22 hq5447.1 ⟨_, rfl⟩⟩, trivial⟩⟩⟩
    have hF : Fr B0 [] κ H0 _ := hF.closeN hB (fa_c (fun h9 => absurd hfq5450 h9) (fa_c (fun h9 => absurd hfw h9) (fa_c (fun h9 => absurd hfq5447 h9) fa_n)))
    have hL : OkL B0 _ := hB.2.2.2.2.2
    have hKF : KF κ κ5451 := hx5451.f
    have hKX : KX κ κ5451 := hx5451
    have hv := (hx5451.f.t2 hv (by decide))
    have hP : va_P D vwCl [(w, .inr (0, [.ref q5450, .ref q5447])), (q5447, .inl (cs 0, 16, .inl (fun _ => 0))), (v, .inl (cs 0, 600, .inl g5449)), (q5450, .inl (cs 0, n, .inl gq5450))] _ := hB.1
    exact en_v hx hb hr hlocks hL (show 2 ≤ 2 by omega) (show ((0 + 16) + 600) ≤ 616 by omega) dX0_init_29 (⟨_, hKX, hT, hF, hw⟩)
  · have c5448 : ¬ 0 ≤ n := fun h9 => c5448 ((nI_leI (a := 0) (b := n) (by omega) (by omega)).mpr h9)
    refine lv_iconst (v := 0) hx hb dX0_init_18 (by decide) ?_
    refine lv_goto (tgt := 23) hx hb dX0_init_19 (by decide) ?_
    obtain ⟨hb5452, e5452, hat5452, hk5452⟩ := hT.o17 hv.1
    obtain ⟨g5452, rfl⟩ := hk5452
    have hB : Bx B0 D _ [(w, .inr (0, [.null, .ref q5447])), (q5447, .inl (cs 0, 16, .inl (fun _ => 0))), (v, .inl (cs 0, 600, .inl g5452))] [w, q5447] _ _ := hB.more hat5452 hb5452 (fa_c (ne_c hfw hv.1 (by decide))  (fa_c (nw_ne hat5452 hgeq5447) fa_n)) (fa_c (ne_c hfw hv.1 (by decide))  (fa_c (nw_ne hat5452 hgeq5447) fa_n))
    have hL : OkL B0 _ := hB.2.2.2.2.2
    refine cs_r (As := [.ref v, .int 0]) (rest := [.ref w]) ⟨hx, hb, hml, hown, hts⟩ (c_J7_copyOf_59c91 (v := v) (n := 0) hb5452 (hB.1 2 _ rfl) (by omega)) (va_cwS 2 hts gX0_init_J7_copyOf_59c91 rfl rfl rfl hdJ7_copyOf_59c91_o ⟨Nat.le_of_ble_eq_true rfl, Nat.le_of_ble_eq_true rfl⟩) hN hE hL rfl rfl hl.1 (Nat.le_of_ble_eq_true rfl) dX0_init_23 (show 1 + 1 ≤ 2 by omega) (show (0 + 16) + 600 ≤ 616 by omega) (fun q5453 H1 locs hL hqq5453 => ?_)
    obtain ⟨heq5453, hzq5453, hoq5453, gq5453, hatq5453⟩ := hqq5453
    have hB := hB.lc hL
    have hgeq5453 : _ ≤ q5453 := Nat.le_trans hB.2.2.1 (Nat.le_of_eq heq5453.symm)
    have hbq5453 : B0 ≤ q5453 := Nat.le_trans hb0 hgeq5453
    have hfq5453 : (κ q5453).1 = 0 := hT.fresh hgeq5453
    have hB := hB.nwm heq5453 hzq5453 hoq5453 hatq5453 hb0
    have hB : Bx B0 D _ [(w, .inr (0, [.null, .ref q5447])), (q5447, .inl (cs 0, 16, .inl (fun _ => 0))), (v, .inl (cs 0, 600, .inl g5452)), (q5453, .inl (cs 0, 0, .inl gq5453))] [q5453, w, q5447] _ _ := hB
    refine b_putF (D := D) (ci := 0) (v := .ref q5453) (ty := .array .int) (C := RX0) (T := TX0) (N := 2) hx hb hts iX0_init_0 tyX0 tyX0_ok nmX0 hown hN hB 0 rfl rfl 0 (by decide) (hts _ mX0_init_6) (fun _ h9 => h9) rfl hin rfl (by decide +kernel) rfl rfl (Nat.le_of_ble_eq_true rfl) (.inr ⟨rfl, List.mem_of_getElem? (i := 1) rfl⟩) dX0_init_26 (fun H locs hB => ?_)
    have hB : Bx B0 D _ [(w, .inr (0, [.ref q5453, .ref q5447])), (q5447, .inl (cs 0, 16, .inl (fun _ => 0))), (v, .inl (cs 0, 600, .inl g5452)), (q5453, .inl (cs 0, 0, .inl gq5453))] [q5453, w, q5447] _ _ := hB
    obtain ⟨κ5454, hκ5454⟩ : ∃ κq : KM, κq = (ku (ku (ku κ w (1, 15, 0, 0)) q5447 (22, 16, 0, 0)) q5453 (21, 15, 0, 0)) := ⟨_, rfl⟩
    have hx5454 : KX κ κ5454 := by rw [hκ5454]; exact (((KX.ku hfw).tr (KX.ku (by rw [ku_n (fun e9 => absurd (hB.2.1.1 1 0 _ _ rfl rfl e9) (by decide))]; exact hfq5447))).tr (KX.ku (by rw [ku_n (fun e9 => absurd (hB.2.1.1 3 1 _ _ rfl rfl e9) (by decide)), ku_n (fun e9 => absurd (hB.2.1.1 3 0 _ _ rfl rfl e9) (by decide))]; exact hfq5453)))
    have ew : κ5454 w = (1, 15, 0, 0) := by rw [hκ5454, ku_n (fun e9 => absurd (hB.2.1.1 0 3 _ _ rfl rfl e9) (by decide)), ku_n (fun e9 => absurd (hB.2.1.1 0 1 _ _ rfl rfl e9) (by decide)), ku_a]
    have hw : T2 κ5454 w 1 15 := ⟨by rw [ew], by rw [ew]⟩
    have eq5447 : κ5454 q5447 = (22, 16, 0, 0) := by rw [hκ5454, ku_n (fun e9 => absurd (hB.2.1.1 1 3 _ _ rfl rfl e9) (by decide)), ku_a]
    have hq5447 : T2 κ5454 q5447 22 16 := ⟨by rw [eq5447], by rw [eq5447]⟩
    have eq5453 : κ5454 q5453 = (21, 15, 0, 0) := by rw [hκ5454, ku_a]
    have hq5453 : T2 κ5454 q5453 21 15 := ⟨by rw [eq5453], by rw [eq5453]⟩
    have hx9 := hx5454
    have hT : WT B0 D cs T κ5454 _ := hT.closeN hB hx5454 (fun a9 h9 => by rw [hκ5454, ku_n (fun e9 => h9 (by rw [e9]; exact List.mem_of_getElem? (i := 0) rfl)), ku_n (fun e9 => h9 (by rw [e9]; exact List.mem_of_getElem? (i := 2) rfl)), ku_n (fun e9 => h9 (by rw [e9]; exact List.mem_of_getElem? (i := 1) rfl))]) ⟨⟨3, _, rfl, ok_21 hq5453.1 ⟨_, _, rfl, (by omega)⟩⟩, ⟨⟨0, _, rfl, ok_1 hw.1 ⟨_, _, rfl, hq5453, hq5447⟩⟩, ⟨⟨1, _, rfl, ok_22 hq5447.1 ⟨_, rfl⟩⟩, trivial⟩⟩⟩
    have hF : Fr B0 [] κ H0 _ := hF.closeN hB (fa_c (fun h9 => absurd hfq5453 h9) (fa_c (fun h9 => absurd hfw h9) (fa_c (fun h9 => absurd hfq5447 h9) fa_n)))
    have hL : OkL B0 _ := hB.2.2.2.2.2
    have hKF : KF κ κ5454 := hx5454.f
    have hKX : KX κ κ5454 := hx5454
    have hv := (hx5454.f.t2 hv (by decide))
    have hP : va_P D vwCl [(w, .inr (0, [.ref q5453, .ref q5447])), (q5447, .inl (cs 0, 16, .inl (fun _ => 0))), (v, .inl (cs 0, 600, .inl g5452)), (q5453, .inl (cs 0, 0, .inl gq5453))] _ := hB.1
    exact en_v hx hb hr hlocks hL (show 2 ≤ 2 by omega) (show ((0 + 16) + 600) ≤ 616 by omega) dX0_init_29 (⟨_, hKX, hT, hF, hw⟩)
theorem mX6_init_1 : (.methodLink RX6 1 objectInit : Cond) ∈ wsX6_init := List.mem_of_getElem? (i := 1) (by decide +kernel)
theorem mX6_init_2 : (.instanceMethod objectInit : Cond) ∈ wsX6_init := List.mem_of_getElem? (i := 2) (by decide +kernel)
theorem mX6_init_3 : (.code objectInit ⟨#[0xb1]⟩ 1 none : Cond) ∈ wsX6_init := List.mem_of_getElem? (i := 3) (by decide +kernel)
theorem mX6_init_4 : (.arrayClass .boolean : Cond) ∈ wsX6_init := List.mem_of_getElem? (i := 4) (by decide +kernel)
theorem mX6_init_5 : (.fieldLink RX6 9 "OneBeat$Setup" "isClockTold" "[Z" : Cond) ∈ wsX6_init := List.mem_of_getElem? (i := 5) (by decide +kernel)
theorem iX6_init_6 : ∀ w ∈ wsX60, w ∈ wsX6_init := fun w h => List.mem_of_mem_drop (List.mem_of_mem_take ((show wsX60 = (wsX6_init.drop 11).take 8 by decide +kernel) ▸ h))
theorem mX6_init_6 : (.arrayClass .int : Cond) ∈ wsX6_init := List.mem_of_getElem? (i := 6) (by decide +kernel)
theorem mX6_init_7 : (.fieldLink RX6 13 "OneBeat$Setup" "offset" "[I" : Cond) ∈ wsX6_init := List.mem_of_getElem? (i := 7) (by decide +kernel)
theorem mX6_init_8 : (.fieldLink RX6 17 "OneBeat$Setup" "drift" "[I" : Cond) ∈ wsX6_init := List.mem_of_getElem? (i := 8) (by decide +kernel)
theorem mX6_init_9 : (.fieldLink RX6 20 "OneBeat$Setup" "delay" "[I" : Cond) ∈ wsX6_init := List.mem_of_getElem? (i := 9) (by decide +kernel)
theorem mX6_init_10 : (.fieldLink RX6 23 "OneBeat$Setup" "players" "I" : Cond) ∈ wsX6_init := List.mem_of_getElem? (i := 10) (by decide +kernel)
set_option maxHeartbeats 4000000 in
set_option maxRecDepth 100000 in
theorem c_X6_init {l : Launch} {D : va_G} {cs : Nat → ClassId} {B0 T : Nat} {κ : KM} {H0 : Heap} (hT : WT B0 D cs T κ H0) {w : Nat} (hfw : (κ w).1 = 0) (hwb : B0 ≤ w) (hwa : va_at D vwCl (w, .inr (6, [.int 0, .int 0, .int 0, .null, .null, .null, .null, .null])) H0) {n : Nat} (hn : n ≤ 8) : KC l yX6_init wsX6_init 1 20 4 88 D cs B0 H0 [.ref w, .int (nI n)] (Qv (fun H => ∃ κ1, KX κ κ1 ∧ WT B0 D cs T κ1 H ∧ Fr B0 [] κ H0 H ∧ T2 κ1 w 7 11 ∧ κ1 w = (7, 11, 0, 0))) := by
  refine KC.of cX6_init 2 none (by decide) rfl (Nat.le_of_ble_eq_true rfl) ?_
  intro p e s m below meth c ls hx hb hr hml hown hts hlocks hin hN hE hH0 hl
  have hown : s.vm.findClass RX6 = some m.cls := hown
  have hl : lv_has ls 2 [(0, .ref w), (1, .int (nI n))] := hl
  have hL : OkL B0 [] := OkL.nil
  have hF : Fr B0 [] κ H0 H0 := Fr.rf
  have hP : va_P D vwCl [(w, .inr (6, [.int 0, .int 0, .int 0, .null, .null, .null, .null, .null]))] _ := va_P.cons hwa va_P.nil
  have hb0 : B0 ≤ H0.size := Nat.le_trans hwb (Nat.le_of_lt hwa.lt)
  refine lv_aload_n hx hb dX6_init_0 rfl (lv_at hl 0 rfl) ?_
  refine W.objInit hx hb hown (hts _ mX6_init_1) (hts _ mX6_init_2) (hts _ mX6_init_3) rfl (by rw [hml]; exact hl.1) rfl dX6_init_1 (Nat.le_of_ble_eq_true rfl) (Nat.le_of_ble_eq_true rfl) ?_
  refine W.eq (g2 := F0 m 4 ls []) rfl ?_
  refine lv_aload_n hx hb dX6_init_4 rfl (lv_at hl 0 rfl) ?_
  refine lv_bipush (v := 8) hx hb dX6_init_5 (by decide) ?_
  have hB : Bx B0 D _ [(w, .inr (6, [.int 0, .int 0, .int 0, .null, .null, .null, .null, .null]))] [] _ _ := Bx.of (fun a => (κ a).1) hL hP (fa_c hwb fa_n) (by simp only [List.map_cons, List.map_nil, hfw]; decide)
  refine nw_a (atype := .boolean) (ty := .boolean) (N' := 8) (a0 := (8, .inl (fun _ => 0))) 2 hN rfl hx hb (hts _ mX6_init_4) rfl (fun _ => rfl) (nI_pos (n := 8) (by omega)) (nI_clamp (n := 8) (by omega)) (show 8 * _ ≤ _ by simp only [componentBytes]; omega) (show 0 + 1 ≤ 4 by omega) (show 0 + 8 ≤ 88 by omega) dX6_init_7 (fun q5455 H heq5455 hzq5455 hoq5455 hatq5455 => ?_)
  have hgeq5455 : _ ≤ q5455 := Nat.le_trans hB.2.2.1 (Nat.le_of_eq heq5455.symm)
  have hbq5455 : B0 ≤ q5455 := Nat.le_trans hb0 hgeq5455
  have hfq5455 : (κ q5455).1 = 0 := hT.fresh hgeq5455
  have hB := hB.nwm heq5455 hzq5455 hoq5455 hatq5455 hb0
  have hB : Bx B0 D _ [(w, .inr (6, [.int 0, .int 0, .int 0, .null, .null, .null, .null, .null])), (q5455, .inl (cs 2, 8, .inl (fun _ => 0)))] [q5455] _ _ := hB
  refine b_putF (D := D) (ci := 6) (v := .ref q5455) (ty := .array .boolean) (C := RX6) (T := TX6) (N := 8) hx hb hts iX6_init_6 tyX6 tyX6_ok nmX6 hown hN hB 0 rfl rfl 4 (by decide) (hts _ mX6_init_5) (fun _ h9 => h9) rfl hin rfl (by decide +kernel) rfl rfl (Nat.le_of_ble_eq_true rfl) (.inl rfl) dX6_init_9 (fun H locs hB => ?_)
  have hB : Bx B0 D _ [(w, .inr (6, [.int 0, .int 0, .int 0, .null, .ref q5455, .null, .null, .null])), (q5455, .inl (cs 2, 8, .inl (fun _ => 0)))] [w, q5455] _ _ := hB
  refine lv_aload_n hx hb dX6_init_12 rfl (lv_at hl 0 rfl) ?_
  refine lv_bipush (v := 8) hx hb dX6_init_13 (by decide) ?_
  refine nw_a (atype := .int) (ty := .int) (N' := 8) (a0 := (8, .inl (fun _ => 0))) 0 hN rfl hx hb (hts _ mX6_init_6) rfl (fun _ => rfl) (nI_pos (n := 8) (by omega)) (nI_clamp (n := 8) (by omega)) (show 8 * _ ≤ _ by simp only [componentBytes]; omega) (show 1 + 1 ≤ 4 by omega) (show (0 + 8) + 8 ≤ 88 by omega) dX6_init_15 (fun q5456 H heq5456 hzq5456 hoq5456 hatq5456 => ?_)
  have hgeq5456 : _ ≤ q5456 := Nat.le_trans hB.2.2.1 (Nat.le_of_eq heq5456.symm)
  have hbq5456 : B0 ≤ q5456 := Nat.le_trans hb0 hgeq5456
  have hfq5456 : (κ q5456).1 = 0 := hT.fresh hgeq5456
  have hB := hB.nwm heq5456 hzq5456 hoq5456 hatq5456 hb0
  have hB : Bx B0 D _ [(w, .inr (6, [.int 0, .int 0, .int 0, .null, .ref q5455, .null, .null, .null])), (q5455, .inl (cs 2, 8, .inl (fun _ => 0))), (q5456, .inl (cs 0, 8, .inl (fun _ => 0)))] [q5456, w, q5455] _ _ := hB
  refine b_putF (D := D) (ci := 6) (v := .ref q5456) (ty := .array .int) (C := RX6) (T := TX6) (N := 8) hx hb hts iX6_init_6 tyX6 tyX6_ok nmX6 hown hN hB 0 rfl rfl 5 (by decide) (hts _ mX6_init_7) (fun _ h9 => h9) rfl hin rfl (by decide +kernel) rfl rfl (Nat.le_of_ble_eq_true rfl) (.inr ⟨rfl, List.mem_of_getElem? (i := 1) rfl⟩) dX6_init_17 (fun H locs hB => ?_)
  have hB : Bx B0 D _ [(w, .inr (6, [.int 0, .int 0, .int 0, .null, .ref q5455, .ref q5456, .null, .null])), (q5455, .inl (cs 2, 8, .inl (fun _ => 0))), (q5456, .inl (cs 0, 8, .inl (fun _ => 0)))] [q5456, w, q5455] _ _ := hB
  refine lv_aload_n hx hb dX6_init_20 rfl (lv_at hl 0 rfl) ?_
  refine lv_bipush (v := 8) hx hb dX6_init_21 (by decide) ?_
  refine nw_a (atype := .int) (ty := .int) (N' := 8) (a0 := (8, .inl (fun _ => 0))) 0 hN rfl hx hb (hts _ mX6_init_6) rfl (fun _ => rfl) (nI_pos (n := 8) (by omega)) (nI_clamp (n := 8) (by omega)) (show 8 * _ ≤ _ by simp only [componentBytes]; omega) (show 2 + 1 ≤ 4 by omega) (show ((0 + 8) + 8) + 8 ≤ 88 by omega) dX6_init_23 (fun q5457 H heq5457 hzq5457 hoq5457 hatq5457 => ?_)
  have hgeq5457 : _ ≤ q5457 := Nat.le_trans hB.2.2.1 (Nat.le_of_eq heq5457.symm)
  have hbq5457 : B0 ≤ q5457 := Nat.le_trans hb0 hgeq5457
  have hfq5457 : (κ q5457).1 = 0 := hT.fresh hgeq5457
  have hB := hB.nwm heq5457 hzq5457 hoq5457 hatq5457 hb0
  have hB : Bx B0 D _ [(w, .inr (6, [.int 0, .int 0, .int 0, .null, .ref q5455, .ref q5456, .null, .null])), (q5455, .inl (cs 2, 8, .inl (fun _ => 0))), (q5456, .inl (cs 0, 8, .inl (fun _ => 0))), (q5457, .inl (cs 0, 8, .inl (fun _ => 0)))] [q5457, q5456, w, q5455] _ _ := hB
  refine b_putF (D := D) (ci := 6) (v := .ref q5457) (ty := .array .int) (C := RX6) (T := TX6) (N := 8) hx hb hts iX6_init_6 tyX6 tyX6_ok nmX6 hown hN hB 0 rfl rfl 6 (by decide) (hts _ mX6_init_8) (fun _ h9 => h9) rfl hin rfl (by decide +kernel) rfl rfl (Nat.le_of_ble_eq_true rfl) (.inr ⟨rfl, List.mem_of_getElem? (i := 2) rfl⟩) dX6_init_25 (fun H locs hB => ?_)
  have hB : Bx B0 D _ [(w, .inr (6, [.int 0, .int 0, .int 0, .null, .ref q5455, .ref q5456, .ref q5457, .null])), (q5455, .inl (cs 2, 8, .inl (fun _ => 0))), (q5456, .inl (cs 0, 8, .inl (fun _ => 0))), (q5457, .inl (cs 0, 8, .inl (fun _ => 0)))] [q5457, q5456, w, q5455] _ _ := hB
  refine lv_aload_n hx hb dX6_init_28 rfl (lv_at hl 0 rfl) ?_
  refine lv_bipush (v := 64) hx hb dX6_init_29 (by decide) ?_
  refine nw_a (atype := .int) (ty := .int) (N' := 64) (a0 := (64, .inl (fun _ => 0))) 0 hN rfl hx hb (hts _ mX6_init_6) rfl (fun _ => rfl) (nI_pos (n := 64) (by omega)) (nI_clamp (n := 64) (by omega)) (show 64 * _ ≤ _ by simp only [componentBytes]; omega) (show 3 + 1 ≤ 4 by omega) (show (((0 + 8) + 8) + 8) + 64 ≤ 88 by omega) dX6_init_31 (fun q5458 H heq5458 hzq5458 hoq5458 hatq5458 => ?_)
  have hgeq5458 : _ ≤ q5458 := Nat.le_trans hB.2.2.1 (Nat.le_of_eq heq5458.symm)
  have hbq5458 : B0 ≤ q5458 := Nat.le_trans hb0 hgeq5458
  have hfq5458 : (κ q5458).1 = 0 := hT.fresh hgeq5458
  have hB := hB.nwm heq5458 hzq5458 hoq5458 hatq5458 hb0
  have hB : Bx B0 D _ [(w, .inr (6, [.int 0, .int 0, .int 0, .null, .ref q5455, .ref q5456, .ref q5457, .null])), (q5455, .inl (cs 2, 8, .inl (fun _ => 0))), (q5456, .inl (cs 0, 8, .inl (fun _ => 0))), (q5457, .inl (cs 0, 8, .inl (fun _ => 0))), (q5458, .inl (cs 0, 64, .inl (fun _ => 0)))] [q5458, q5457, q5456, w, q5455] _ _ := hB
  refine b_putF (D := D) (ci := 6) (v := .ref q5458) (ty := .array .int) (C := RX6) (T := TX6) (N := 8) hx hb hts iX6_init_6 tyX6 tyX6_ok nmX6 hown hN hB 0 rfl rfl 7 (by decide) (hts _ mX6_init_9) (fun _ h9 => h9) rfl hin rfl (by decide +kernel) rfl rfl (Nat.le_of_ble_eq_true rfl) (.inr ⟨rfl, List.mem_of_getElem? (i := 3) rfl⟩) dX6_init_33 (fun H locs hB => ?_)
  have hB : Bx B0 D _ [(w, .inr (6, [.int 0, .int 0, .int 0, .null, .ref q5455, .ref q5456, .ref q5457, .ref q5458])), (q5455, .inl (cs 2, 8, .inl (fun _ => 0))), (q5456, .inl (cs 0, 8, .inl (fun _ => 0))), (q5457, .inl (cs 0, 8, .inl (fun _ => 0))), (q5458, .inl (cs 0, 64, .inl (fun _ => 0)))] [q5458, q5457, q5456, w, q5455] _ _ := hB
  refine lv_aload_n hx hb dX6_init_36 rfl (lv_at hl 0 rfl) ?_
  refine lv_iload_n hx hb dX6_init_37 rfl (lv_at hl 1 rfl) ?_
  refine b_putF (D := D) (ci := 6) (v := .int (nI n)) (ty := .int) (C := RX6) (T := TX6) (N := 8) hx hb hts iX6_init_6 tyX6 tyX6_ok nmX6 hown hN hB 0 rfl rfl 0 (by decide) (hts _ mX6_init_10) (fun _ h9 => h9) rfl hin rfl (by decide +kernel) rfl rfl (Nat.le_of_ble_eq_true rfl) (.inr ⟨rfl, List.mem_of_getElem? (i := 3) rfl⟩) dX6_init_38 (fun H locs hB => ?_)
  have hB : Bx B0 D _ [(w, .inr (6, [.int (nI n), .int 0, .int 0, .null, .ref q5455, .ref q5456, .ref q5457, .ref q5458])), (q5455, .inl (cs 2, 8, .inl (fun _ => 0))), (q5456, .inl (cs 0, 8, .inl (fun _ => 0))), (q5457, .inl (cs 0, 8, .inl (fun _ => 0))), (q5458, .inl (cs 0, 64, .inl (fun _ => 0)))] [q5458, q5457, q5456, w, q5455] _ _ := hB
  obtain ⟨κ5459, hκ5459⟩ : ∃ κq : KM, κq = (ku (ku (ku (ku (ku κ w (7, 11, 0, 0)) q5455 (18, 11, 0, 0)) q5456 (19, 11, 0, 0)) q5457 (19, 11, 0, 0)) q5458 (20, 11, 0, 0)) := ⟨_, rfl⟩
  have hx5459 : KX κ κ5459 := by rw [hκ5459]; exact (((((KX.ku hfw).tr (KX.ku (by rw [ku_n (fun e9 => absurd (hB.2.1.1 1 0 _ _ rfl rfl e9) (by decide))]; exact hfq5455))).tr (KX.ku (by rw [ku_n (fun e9 => absurd (hB.2.1.1 2 1 _ _ rfl rfl e9) (by decide)), ku_n (fun e9 => absurd (hB.2.1.1 2 0 _ _ rfl rfl e9) (by decide))]; exact hfq5456))).tr (KX.ku (by rw [ku_n (fun e9 => absurd (hB.2.1.1 3 2 _ _ rfl rfl e9) (by decide)), ku_n (fun e9 => absurd (hB.2.1.1 3 1 _ _ rfl rfl e9) (by decide)), ku_n (fun e9 => absurd (hB.2.1.1 3 0 _ _ rfl rfl e9) (by decide))]; exact hfq5457))).tr (KX.ku (by rw [ku_n (fun e9 => absurd (hB.2.1.1 4 3 _ _ rfl rfl e9) (by decide)), ku_n (fun e9 => absurd (hB.2.1.1 4 2 _ _ rfl rfl e9) (by decide)), ku_n (fun e9 => absurd (hB.2.1.1 4 1 _ _ rfl rfl e9) (by decide)), ku_n (fun e9 => absurd (hB.2.1.1 4 0 _ _ rfl rfl e9) (by decide))]; exact hfq5458)))
  have ew : κ5459 w = (7, 11, 0, 0) := by rw [hκ5459, ku_n (fun e9 => absurd (hB.2.1.1 0 4 _ _ rfl rfl e9) (by decide)), ku_n (fun e9 => absurd (hB.2.1.1 0 3 _ _ rfl rfl e9) (by decide)), ku_n (fun e9 => absurd (hB.2.1.1 0 2 _ _ rfl rfl e9) (by decide)), ku_n (fun e9 => absurd (hB.2.1.1 0 1 _ _ rfl rfl e9) (by decide)), ku_a]
  have hw : T2 κ5459 w 7 11 := ⟨by rw [ew], by rw [ew]⟩
  have eq5455 : κ5459 q5455 = (18, 11, 0, 0) := by rw [hκ5459, ku_n (fun e9 => absurd (hB.2.1.1 1 4 _ _ rfl rfl e9) (by decide)), ku_n (fun e9 => absurd (hB.2.1.1 1 3 _ _ rfl rfl e9) (by decide)), ku_n (fun e9 => absurd (hB.2.1.1 1 2 _ _ rfl rfl e9) (by decide)), ku_a]
  have hq5455 : T2 κ5459 q5455 18 11 := ⟨by rw [eq5455], by rw [eq5455]⟩
  have eq5456 : κ5459 q5456 = (19, 11, 0, 0) := by rw [hκ5459, ku_n (fun e9 => absurd (hB.2.1.1 2 4 _ _ rfl rfl e9) (by decide)), ku_n (fun e9 => absurd (hB.2.1.1 2 3 _ _ rfl rfl e9) (by decide)), ku_a]
  have hq5456 : T2 κ5459 q5456 19 11 := ⟨by rw [eq5456], by rw [eq5456]⟩
  have eq5457 : κ5459 q5457 = (19, 11, 0, 0) := by rw [hκ5459, ku_n (fun e9 => absurd (hB.2.1.1 3 4 _ _ rfl rfl e9) (by decide)), ku_a]
  have hq5457 : T2 κ5459 q5457 19 11 := ⟨by rw [eq5457], by rw [eq5457]⟩
  have eq5458 : κ5459 q5458 = (20, 11, 0, 0) := by rw [hκ5459, ku_a]
  have hq5458 : T2 κ5459 q5458 20 11 := ⟨by rw [eq5458], by rw [eq5458]⟩
  have hx9 := hx5459
  have hT : WT B0 D cs T κ5459 _ := hT.closeN hB hx5459 (fun a9 h9 => by rw [hκ5459, ku_n (fun e9 => h9 (by rw [e9]; exact List.mem_of_getElem? (i := 0) rfl)), ku_n (fun e9 => h9 (by rw [e9]; exact List.mem_of_getElem? (i := 1) rfl)), ku_n (fun e9 => h9 (by rw [e9]; exact List.mem_of_getElem? (i := 2) rfl)), ku_n (fun e9 => h9 (by rw [e9]; exact List.mem_of_getElem? (i := 4) rfl)), ku_n (fun e9 => h9 (by rw [e9]; exact List.mem_of_getElem? (i := 3) rfl))]) ⟨⟨4, _, rfl, ok_20 hq5458.1 ⟨_, rfl, (fun _ _ => ⟨0, Nat.zero_le _, rfl⟩)⟩⟩, ⟨⟨3, _, rfl, ok_19 hq5457.1 ⟨_, rfl⟩⟩, ⟨⟨2, _, rfl, ok_19 hq5456.1 ⟨_, rfl⟩⟩, ⟨⟨0, _, rfl, ok_7 hw.1 ⟨_, _, _, _, _, _, _, _, rfl, (by omega), (Or.inl rfl), (Or.inl (by rw [ew]; decide)), ⟨hq5455.1, by rw [ew]; exact hq5455.2⟩, ⟨hq5456.1, by rw [ew]; exact hq5456.2⟩, ⟨hq5457.1, by rw [ew]; exact hq5457.2⟩, ⟨hq5458.1, by rw [ew]; exact hq5458.2⟩⟩⟩, ⟨⟨1, _, rfl, ok_18 hq5455.1 ⟨_, rfl, (fun _ _ => Or.inl rfl)⟩⟩, trivial⟩⟩⟩⟩⟩
  have hF : Fr B0 [] κ H0 _ := hF.closeN hB (fa_c (fun h9 => absurd hfq5458 h9) (fa_c (fun h9 => absurd hfq5457 h9) (fa_c (fun h9 => absurd hfq5456 h9) (fa_c (fun h9 => absurd hfw h9) (fa_c (fun h9 => absurd hfq5455 h9) fa_n)))))
  have hL : OkL B0 _ := hB.2.2.2.2.2
  have hKF : KF κ κ5459 := hx5459.f
  have hKX : KX κ κ5459 := hx5459
  have hP : va_P D vwCl [(w, .inr (6, [.int (nI n), .int 0, .int 0, .null, .ref q5455, .ref q5456, .ref q5457, .ref q5458])), (q5455, .inl (cs 2, 8, .inl (fun _ => 0))), (q5456, .inl (cs 0, 8, .inl (fun _ => 0))), (q5457, .inl (cs 0, 8, .inl (fun _ => 0))), (q5458, .inl (cs 0, 64, .inl (fun _ => 0)))] _ := hB.1
  exact en_v hx hb hr hlocks hL (show 4 ≤ 4 by omega) (show ((((0 + 8) + 8) + 8) + 64) ≤ 88 by omega) dX6_init_41 (⟨_, hKX, hT, hF, hw, ew⟩)
theorem mX5_readStatement_7 : (.fieldLink RX5 124 "OneBeat$Reader" "start" "I" : Cond) ∈ wsX5_readStatement := List.mem_of_getElem? (i := 7) (by decide +kernel)
theorem iX5_readStatement_5 : ∀ w ∈ wsX50, w ∈ wsX5_readStatement := fun w h => List.mem_of_mem_drop (List.mem_of_mem_take ((show wsX50 = (wsX5_readStatement.drop 183).take 14 by decide +kernel) ▸ h))
theorem mX5_readStatement_1 : (.fieldLink RX5 65 "OneBeat$Reader" "setup" "LOneBeat$Setup;" : Cond) ∈ wsX5_readStatement := List.mem_of_getElem? (i := 1) (by decide +kernel)
theorem iX5_readStatement_6 : ∀ w ∈ wsX60, w ∈ wsX5_readStatement := fun w h => List.mem_of_mem_drop (List.mem_of_mem_take ((show wsX60 = (wsX5_readStatement.drop 197).take 8 by decide +kernel) ▸ h))
theorem iX5_readStatement_0 : ∀ w ∈ wsX00, w ∈ wsX5_readStatement := fun w h => List.mem_of_mem_drop (List.mem_of_mem_take ((show wsX00 = (wsX5_readStatement.drop 205).take 2 by decide +kernel) ▸ h))
theorem mX5_readStatement_2 : (.classLink RX5 119 RX0 : Cond) ∈ wsX5_readStatement := List.mem_of_getElem? (i := 2) (by decide +kernel)
theorem mX5_readStatement_3 : (.instantiable RX0 2 : Cond) ∈ wsX5_readStatement := List.mem_of_getElem? (i := 3) (by decide +kernel)
theorem mX5_readStatement_4 : (.initialized RX0 : Cond) ∈ wsX5_readStatement := List.mem_of_getElem? (i := 4) (by decide +kernel)
theorem dfl0 : ∀ j, j < 2 → defaultValue (tyX0 j) = vp_V [.null, .null] j := by decide +kernel
theorem mX5_readStatement_5 : (.fieldLink RX5 15 "OneBeat$Reader" "codes" "[I" : Cond) ∈ wsX5_readStatement := List.mem_of_getElem? (i := 5) (by decide +kernel)
theorem mX5_readStatement_6 : (.fieldLink RX5 38 "OneBeat$Reader" "codeCount" "I" : Cond) ∈ wsX5_readStatement := List.mem_of_getElem? (i := 6) (by decide +kernel)
theorem mX5_readStatement_157 : (.instanceMethod yX0_init : Cond) ∈ wsX5_readStatement := List.mem_of_getElem? (i := 157) (by decide +kernel)
theorem mX5_readStatement_156 : (.methodLink RX5 121 yX0_init : Cond) ∈ wsX5_readStatement := List.mem_of_getElem? (i := 156) (by decide +kernel)
theorem hdX0_init_o : yX0_init.cls ≠ "java/lang/invoke/MethodHandle" ∧ yX0_init.cls ≠ "java/lang/invoke/VarHandle" ∧ (parseMethodDescriptor yX0_init.desc).map (fun d => d.parameters.length) = some 2 := by decide +kernel
theorem hdX5_readPatience_v : yX5_readPatience.cls = RX5 ∧ yX5_readPatience.cls ≠ "java/lang/invoke/MethodHandle" ∧ yX5_readPatience.cls ≠ "java/lang/invoke/VarHandle" ∧ (parseMethodDescriptor yX5_readPatience.desc).map (fun d => d.parameters.length) = some 0 := by decide +kernel
theorem hdX5_readNeed_v : yX5_readNeed.cls = RX5 ∧ yX5_readNeed.cls ≠ "java/lang/invoke/MethodHandle" ∧ yX5_readNeed.cls ≠ "java/lang/invoke/VarHandle" ∧ (parseMethodDescriptor yX5_readNeed.desc).map (fun d => d.parameters.length) = some 0 := by decide +kernel
theorem hdX5_readLink_v : yX5_readLink.cls = RX5 ∧ yX5_readLink.cls ≠ "java/lang/invoke/MethodHandle" ∧ yX5_readLink.cls ≠ "java/lang/invoke/VarHandle" ∧ (parseMethodDescriptor yX5_readLink.desc).map (fun d => d.parameters.length) = some 0 := by decide +kernel
theorem hdX5_readClock_v : yX5_readClock.cls = RX5 ∧ yX5_readClock.cls ≠ "java/lang/invoke/MethodHandle" ∧ yX5_readClock.cls ≠ "java/lang/invoke/VarHandle" ∧ (parseMethodDescriptor yX5_readClock.desc).map (fun d => d.parameters.length) = some 0 := by decide +kernel
set_option maxHeartbeats 4000000 in
set_option maxRecDepth 100000 in
theorem c_X5_readStatement {l : Launch} {D : va_G} {cs : Nat → ClassId} {B0 T : Nat} {κ : KM} {H0 : Heap} (hT : WT B0 D cs T κ H0) {w : Nat} (hw : T2 κ w 6 10) (hs0 : ¬ (κ w).2.2.2 = 0) (hsu : T2 κ (κ w).2.2.2 7 11) : KC l yX5_readStatement wsX5_readStatement 21 467 3 618 D cs B0 H0 [.ref w] (Qi (fun r H => ∃ κ1, (∀ a, (κ a).1 ≠ 0 → a ≠ (κ w).2.2.2 → κ1 a = κ a) ∧ WT B0 D cs T κ1 H ∧ Fr B0 [10, 11] κ H0 H ∧ T2 κ1 (κ w).2.2.2 7 11 ∧ (((κ1 (κ w).2.2.2).2.2.1 = (κ (κ w).2.2.2).2.2.1 ∧ Gr H0 H 0 0) ∨ ((κ (κ w).2.2.2).2.2.1 ≠ 1 ∧ (κ1 (κ w).2.2.2).2.2.1 = 1 ∧ Gr H0 H 3 618)) ∧ (r = 0 ∨ r = 1))) := by
  refine KC.of cX5_readStatement 1 (some .boolean) (by decide) rfl (Nat.le_of_ble_eq_true rfl) ?_
  intro p e s m below meth c ls hx hb hr hml hown hts hlocks hin hN hE hH0 hl
  have hown : s.vm.findClass RX5 = some m.cls := hown
  have hl : lv_has ls 1 [(0, .ref w)] := hl
  have hL : OkL B0 [] := OkL.nil
  have hF : Fr B0 [10, 11] κ H0 H0 := Fr.rf
  refine lv_aload_n hx hb dX5_readStatement_0 rfl (lv_at hl 0 rfl) ?_
  refine va_ldcS hx hb hown (hN.s 2 rfl) dX5_readStatement_1 ?_
  refine cv_i (As := [.ref (cs 102)]) (rest := []) (b := w) ⟨hx, hb, hml, hown, hts⟩ (c_X5_isWord hT (w := w) hw (i := 2) (by decide)) (cwV 1 hts gX5_readStatement_X5_isWord rfl rfl rfl hdX5_isWord_v ⟨Nat.le_of_ble_eq_true rfl, Nat.le_of_ble_eq_true rfl⟩) hN hE hL (rcv6 hN hT hw.1) rfl rfl hl.1 (Nat.le_of_ble_eq_true rfl) dX5_readStatement_3 (Nat.zero_le _) (Nat.zero_le _) (fun r5460 H1 locs hL hqr5460 => ?_)
  obtain ⟨h9, hqr5460⟩ := hqr5460; replace h9 := h9.symm; subst h9
  rcases hqr5460 with rfl | rfl
  · refine lv_if_eq (tgt := 14) hx hb dX5_readStatement_6 (by decide) (fun _ => ?_) (fun c9 => absurd (by decide) c9)
    refine lv_aload_n hx hb dX5_readStatement_14 rfl (lv_at hl 0 rfl) ?_
    refine va_ldcS hx hb hown (hN.s 3 rfl) dX5_readStatement_15 ?_
    refine cv_i (As := [.ref (cs 103)]) (rest := []) (b := w) ⟨hx, hb, hml, hown, hts⟩ (c_X5_isWord hT (w := w) hw (i := 3) (by decide)) (cwV 1 hts gX5_readStatement_X5_isWord rfl rfl rfl hdX5_isWord_v ⟨Nat.le_of_ble_eq_true rfl, Nat.le_of_ble_eq_true rfl⟩) hN hE hL (rcv6 hN hT hw.1) rfl rfl hl.1 (Nat.le_of_ble_eq_true rfl) dX5_readStatement_17 (Nat.zero_le _) (Nat.zero_le _) (fun r5461 H1 locs hL hqr5461 => ?_)
    obtain ⟨h9, hqr5461⟩ := hqr5461; replace h9 := h9.symm; subst h9
    rcases hqr5461 with rfl | rfl
    · refine lv_if_eq (tgt := 28) hx hb dX5_readStatement_20 (by decide) (fun _ => ?_) (fun c9 => absurd (by decide) c9)
      refine lv_aload_n hx hb dX5_readStatement_28 rfl (lv_at hl 0 rfl) ?_
      refine va_ldcS hx hb hown (hN.s 4 rfl) dX5_readStatement_29 ?_
      refine cv_i (As := [.ref (cs 104)]) (rest := []) (b := w) ⟨hx, hb, hml, hown, hts⟩ (c_X5_isWord hT (w := w) hw (i := 4) (by decide)) (cwV 1 hts gX5_readStatement_X5_isWord rfl rfl rfl hdX5_isWord_v ⟨Nat.le_of_ble_eq_true rfl, Nat.le_of_ble_eq_true rfl⟩) hN hE hL (rcv6 hN hT hw.1) rfl rfl hl.1 (Nat.le_of_ble_eq_true rfl) dX5_readStatement_31 (Nat.zero_le _) (Nat.zero_le _) (fun r5462 H1 locs hL hqr5462 => ?_)
      obtain ⟨h9, hqr5462⟩ := hqr5462; replace h9 := h9.symm; subst h9
      rcases hqr5462 with rfl | rfl
      · refine lv_if_eq (tgt := 52) hx hb dX5_readStatement_34 (by decide) (fun _ => ?_) (fun c9 => absurd (by decide) c9)
        refine lv_aload_n hx hb dX5_readStatement_52 rfl (lv_at hl 0 rfl) ?_
        refine va_ldcS hx hb hown (hN.s 5 rfl) dX5_readStatement_53 ?_
        refine cv_i (As := [.ref (cs 105)]) (rest := []) (b := w) ⟨hx, hb, hml, hown, hts⟩ (c_X5_isWord hT (w := w) hw (i := 5) (by decide)) (cwV 1 hts gX5_readStatement_X5_isWord rfl rfl rfl hdX5_isWord_v ⟨Nat.le_of_ble_eq_true rfl, Nat.le_of_ble_eq_true rfl⟩) hN hE hL (rcv6 hN hT hw.1) rfl rfl hl.1 (Nat.le_of_ble_eq_true rfl) dX5_readStatement_55 (Nat.zero_le _) (Nat.zero_le _) (fun r5463 H1 locs hL hqr5463 => ?_)
        obtain ⟨h9, hqr5463⟩ := hqr5463; replace h9 := h9.symm; subst h9
        rcases hqr5463 with rfl | rfl
        · refine lv_if_eq (tgt := 76) hx hb dX5_readStatement_58 (by decide) (fun _ => ?_) (fun c9 => absurd (by decide) c9)
          refine lv_aload_n hx hb dX5_readStatement_76 rfl (lv_at hl 0 rfl) ?_
          refine va_ldcS hx hb hown (hN.s 6 rfl) dX5_readStatement_77 ?_
          refine cv_i (As := [.ref (cs 106)]) (rest := []) (b := w) ⟨hx, hb, hml, hown, hts⟩ (c_X5_isWord hT (w := w) hw (i := 6) (by decide)) (cwV 1 hts gX5_readStatement_X5_isWord rfl rfl rfl hdX5_isWord_v ⟨Nat.le_of_ble_eq_true rfl, Nat.le_of_ble_eq_true rfl⟩) hN hE hL (rcv6 hN hT hw.1) rfl rfl hl.1 (Nat.le_of_ble_eq_true rfl) dX5_readStatement_79 (Nat.zero_le _) (Nat.zero_le _) (fun r5464 H1 locs hL hqr5464 => ?_)
          obtain ⟨h9, hqr5464⟩ := hqr5464; replace h9 := h9.symm; subst h9
          rcases hqr5464 with rfl | rfl
          · refine lv_if_eq (tgt := 133) hx hb dX5_readStatement_82 (by decide) (fun _ => ?_) (fun c9 => absurd (by decide) c9)
            refine lv_aload_n hx hb dX5_readStatement_133 rfl (lv_at hl 0 rfl) ?_
            refine lv_bipush (v := (-2)) hx hb dX5_readStatement_134 (by decide) ?_
            refine lv_aload_n hx hb dX5_readStatement_136 rfl (lv_at hl 0 rfl) ?_
            obtain ⟨hb5465, e5465, hat5465, hk5465⟩ := hT.o6 hw.1
            obtain ⟨f5465_0, f5465_2, f5465_3, f5465_4, f5465_5, f5465_6, f5465_7, f5465_8, f5465_9, f5465_10, f5465_11, f5465_12, f5465_13, rfl, c5465_1, c5465_2, c5465_3, c5465_5, c5465_10, t5465_0, t5465_9, c5465_11, c5465_p2⟩ := hk5465
            obtain rfl : f5465_11 = .ref (κ w).2.2.2 := c5465_p2.resolve_left hs0
            have hP : va_P D vwCl [(w, .inr (5, [.ref f5465_0, .int (nI ((κ w).2.2.1)), .int (nI f5465_2), .int (nI f5465_3), .int f5465_4, .int (nI f5465_5), .int f5465_6, .int f5465_7, .int f5465_8, .ref f5465_9, .int (nI f5465_10), .ref (κ w).2.2.2, .int f5465_12, .int f5465_13]))] _ := va_P.cons hat5465 va_P.nil
            refine va_get (D := D) (ci := 5) (v := .int (nI f5465_5)) (C := RX5) (T := TX5) (N := 14) hx hb hts iX5_readStatement_5 hown hN.1 hP 0 rfl rfl 5 (by decide) (hts _ mX5_readStatement_7) (fun _ h9 => h9) rfl dX5_readStatement_137 ?_
            refine cv_i (As := [.int (-2), .int (nI f5465_5)]) (rest := []) (b := w) ⟨hx, hb, hml, hown, hts⟩ (c_X5_fail hT (w := w) hw (x := (-2)) (y := (nI f5465_5))) (cwV 2 hts gX5_readStatement_X5_fail rfl rfl rfl hdX5_fail_v ⟨Nat.le_of_ble_eq_true rfl, Nat.le_of_ble_eq_true rfl⟩) hN hE hL (rcv6 hN hT hw.1) rfl rfl hl.1 (Nat.le_of_ble_eq_true rfl) dX5_readStatement_140 (Nat.zero_le _) (Nat.zero_le _) (fun r5466 H1 locs hL hqr5466 => ?_)
            obtain ⟨hT1, hF1, hqr5466⟩ := hqr5466
            have hF := hF.tr (hF1.mono (by simp))
            have hT := hT1
            obtain rfl := hqr5466
            refine W.know (fun hg => ?_)
            rw [hH0] at hg
            exact en_i hx hb hr hlocks hL rfl (Nat.zero_le _) (Nat.zero_le _) dX5_readStatement_143 (⟨_, (fun _ _ _ => rfl), hT, hF, hsu, Or.inl ⟨rfl, hg⟩, Or.inl rfl⟩)
          · refine lv_if_eq (tgt := 133) hx hb dX5_readStatement_82 (by decide) (fun c9 => absurd c9 (by decide)) (fun _ => ?_)
            refine lv_aload_n hx hb dX5_readStatement_85 rfl (lv_at hl 0 rfl) ?_
            obtain ⟨hb5467, e5467, hat5467, hk5467⟩ := hT.o6 hw.1
            obtain ⟨f5467_0, f5467_2, f5467_3, f5467_4, f5467_5, f5467_6, f5467_7, f5467_8, f5467_9, f5467_10, f5467_11, f5467_12, f5467_13, rfl, c5467_1, c5467_2, c5467_3, c5467_5, c5467_10, t5467_0, t5467_9, c5467_11, c5467_p2⟩ := hk5467
            obtain rfl : f5467_11 = .ref (κ w).2.2.2 := c5467_p2.resolve_left hs0
            have hP : va_P D vwCl [(w, .inr (5, [.ref f5467_0, .int (nI ((κ w).2.2.1)), .int (nI f5467_2), .int (nI f5467_3), .int f5467_4, .int (nI f5467_5), .int f5467_6, .int f5467_7, .int f5467_8, .ref f5467_9, .int (nI f5467_10), .ref (κ w).2.2.2, .int f5467_12, .int f5467_13]))] _ := va_P.cons hat5467 va_P.nil
            refine va_get (D := D) (ci := 5) (v := .ref (κ w).2.2.2) (C := RX5) (T := TX5) (N := 14) hx hb hts iX5_readStatement_5 hown hN.1 hP 0 rfl rfl 11 (by decide) (hts _ mX5_readStatement_1) (fun _ h9 => h9) rfl dX5_readStatement_86 ?_
            obtain ⟨hb5468, e5468, hat5468, hk5468⟩ := hT.o7 hsu.1
            obtain ⟨f5468_0, f5468_1, f5468_2, f5468_3, f5468_4, f5468_5, f5468_6, f5468_7, rfl, c5468_0, c5468_3, c5468_mg, t5468_4, t5468_5, t5468_6, t5468_7⟩ := hk5468
            rw [hsu.2] at t5468_4
            rw [hsu.2] at t5468_5
            rw [hsu.2] at t5468_6
            rw [hsu.2] at t5468_7
            have hP : va_P D vwCl [((κ w).2.2.2, .inr (6, [.int (nI f5468_0), .int f5468_1, .int f5468_2, f5468_3, .ref f5468_4, .ref f5468_5, .ref f5468_6, .ref f5468_7])), (w, .inr (5, [.ref f5467_0, .int (nI ((κ w).2.2.1)), .int (nI f5467_2), .int (nI f5467_3), .int f5467_4, .int (nI f5467_5), .int f5467_6, .int f5467_7, .int f5467_8, .ref f5467_9, .int (nI f5467_10), .ref (κ w).2.2.2, .int f5467_12, .int f5467_13]))] _ := va_P.cons hat5468 hP
            rcases c5468_3 with rfl | ⟨a5469, rfl, ta5469⟩
            · refine va_getN (D := D) (ci := 6) (v := .null) (C := RX6) (T := TX6) (N := 8) hx hb hts iX5_readStatement_6 hown hN.1 hP 0 rfl rfl 3 (by decide) (hN.f 44 rfl) (fun _ h9 => h9) rfl dX5_readStatement_89 ?_
              refine lv_ifnonnullN hx hb dX5_readStatement_92 ?_
              have hmg1 : (κ (κ w).2.2.2).2.2.1 ≠ 1 := (c5468_mg).resolve_right (by rintro ⟨_, h9⟩; cases h9)
              refine lv_aload_n hx hb dX5_readStatement_95 rfl (lv_at hl 0 rfl) ?_
              refine cv_v (As := []) (rest := []) (b := w) ⟨hx, hb, hml, hown, hts⟩ (c_X5_step hT (w := w) hw) (cwV 0 hts gX5_readStatement_X5_step rfl rfl rfl hdX5_step_v ⟨Nat.le_of_ble_eq_true rfl, Nat.le_of_ble_eq_true rfl⟩) hN hE hL (rcv6 hN hT hw.1) rfl rfl hl.1 (Nat.le_of_ble_eq_true rfl) dX5_readStatement_96 (Nat.zero_le _) (Nat.zero_le _) (fun H1 locs hL hqr5470 => ?_)
              obtain ⟨hT1, hF1, hqr5470⟩ := hqr5470
              have hP : va_P D vwCl [((κ w).2.2.2, .inr (6, [.int (nI f5468_0), .int f5468_1, .int f5468_2, .null, .ref f5468_4, .ref f5468_5, .ref f5468_6, .ref f5468_7]))] _ := hF1.hP (hP.sub [0] rfl) (fa_c ⟨by rw [hsu.1]; decide, by rw [hsu.2]; first | decide | (simp; done) | (simp [h15a, h15b, h15c]; done) | (simp; omega)⟩ fa_n)
              have hF := hF.tr (hF1.mono (by simp))
              have hT := hT1
              have f5471 := hqr5470
              refine lv_aload_n hx hb dX5_readStatement_99 rfl (lv_at hl 0 rfl) ?_
              refine lv_iconst (v := 0) hx hb dX5_readStatement_100 (by decide) ?_
              refine cv_i (As := [.int 0]) (rest := []) (b := w) ⟨hx, hb, hml, hown, hts⟩ (c_X5_readSum_d0 hT (w := w) hw) (cwV 1 hts gX5_readStatement_X5_readSum rfl rfl rfl hdX5_readSum_v ⟨Nat.le_of_ble_eq_true rfl, Nat.le_of_ble_eq_true rfl⟩) hN hE hL (rcv6 hN hT hw.1) rfl rfl hl.1 (Nat.le_of_ble_eq_true rfl) dX5_readStatement_101 (Nat.zero_le _) (Nat.zero_le _) (fun r5472 H1 locs hL hqr5472 => ?_)
              obtain ⟨hT1, hF1, hqr5472⟩ := hqr5472
              have hP : va_P D vwCl [((κ w).2.2.2, .inr (6, [.int (nI f5468_0), .int f5468_1, .int f5468_2, .null, .ref f5468_4, .ref f5468_5, .ref f5468_6, .ref f5468_7]))] _ := hF1.hP (hP.sub [0] rfl) (fa_c ⟨by rw [hsu.1]; decide, by rw [hsu.2]; first | decide | (simp; done) | (simp [h15a, h15b, h15c]; done) | (simp; omega)⟩ fa_n)
              have hF := hF.tr (hF1.mono (by simp))
              have hT := hT1
              rcases hqr5472 with rfl | rfl
              · refine lv_if_ne (tgt := 109) hx hb dX5_readStatement_104 (by decide) (fun c9 => absurd (by decide) c9) (fun _ => ?_)
                refine lv_iconst (v := 0) hx hb dX5_readStatement_107 (by decide) ?_
                refine W.know (fun hg => ?_)
                rw [hH0] at hg
                exact en_i hx hb hr hlocks hL rfl (Nat.zero_le _) (Nat.zero_le _) dX5_readStatement_108 (⟨_, (fun _ _ _ => rfl), hT, hF, hsu, Or.inl ⟨rfl, hg⟩, Or.inl rfl⟩)
              · refine lv_if_ne (tgt := 109) hx hb dX5_readStatement_104 (by decide) (fun _ => ?_) (fun c9 => absurd c9 (by decide))
                refine lv_aload_n hx hb dX5_readStatement_109 rfl (lv_at hl 0 rfl) ?_
                obtain ⟨hb5473, e5473, hat5473, hk5473⟩ := hT.o6 hw.1
                obtain ⟨f5473_0, f5473_2, f5473_3, f5473_4, f5473_5, f5473_6, f5473_7, f5473_8, f5473_9, f5473_10, f5473_11, f5473_12, f5473_13, rfl, c5473_1, c5473_2, c5473_3, c5473_5, c5473_10, t5473_0, t5473_9, c5473_11, c5473_p2⟩ := hk5473
                obtain rfl : f5473_11 = .ref (κ w).2.2.2 := c5473_p2.resolve_left hs0
                have hP : va_P D vwCl [(w, .inr (5, [.ref f5473_0, .int (nI ((κ w).2.2.1)), .int (nI f5473_2), .int (nI f5473_3), .int f5473_4, .int (nI f5473_5), .int f5473_6, .int f5473_7, .int f5473_8, .ref f5473_9, .int (nI f5473_10), .ref (κ w).2.2.2, .int f5473_12, .int f5473_13])), ((κ w).2.2.2, .inr (6, [.int (nI f5468_0), .int f5468_1, .int f5468_2, .null, .ref f5468_4, .ref f5468_5, .ref f5468_6, .ref f5468_7]))] _ := va_P.cons hat5473 hP
                refine va_get (D := D) (ci := 5) (v := .ref (κ w).2.2.2) (C := RX5) (T := TX5) (N := 14) hx hb hts iX5_readStatement_5 hown hN.1 hP 0 rfl rfl 11 (by decide) (hts _ mX5_readStatement_1) (fun _ h9 => h9) rfl dX5_readStatement_110 ?_
                have hb0 : B0 ≤ _ := hT.b0 hw (by decide)
                have hB : Bx B0 D _ [(w, .inr (5, [.ref f5473_0, .int (nI ((κ w).2.2.1)), .int (nI f5473_2), .int (nI f5473_3), .int f5473_4, .int (nI f5473_5), .int f5473_6, .int f5473_7, .int f5473_8, .ref f5473_9, .int (nI f5473_10), .ref (κ w).2.2.2, .int f5473_12, .int f5473_13])), ((κ w).2.2.2, .inr (6, [.int (nI f5468_0), .int f5468_1, .int f5468_2, .null, .ref f5468_4, .ref f5468_5, .ref f5468_6, .ref f5468_7]))] [] _ _ := Bx.of (fun a => (κ a).1) hL hP (fa_c hb5473 (fa_c hb5468 fa_n)) (by simp only [List.map_cons, List.map_nil, hw.1, hsu.1]; decide)
                refine nw_o (ci := 0) (fs := [.null, .null]) (C := RX0) (T := TX0) (N := 2) hx hb hts iX5_readStatement_0 tyX0 tyX0_ok hown (hts _ mX5_readStatement_2) (hts _ mX5_readStatement_3) (hts _ mX5_readStatement_4) hN rfl dfl0 (show 0 + 1 ≤ 3 by omega) (show 0 + 2 ≤ 618 by omega) dX5_readStatement_113 (fun q5474 H heq5474 hzq5474 hoq5474 hatq5474 => ?_)
                have hgeq5474 : _ ≤ q5474 := Nat.le_trans hB.2.2.1 (Nat.le_of_eq heq5474.symm)
                have hbq5474 : B0 ≤ q5474 := Nat.le_trans hb0 hgeq5474
                have hfq5474 : (κ q5474).1 = 0 := hT.fresh hgeq5474
                have hB := hB.nw heq5474 hzq5474 hoq5474 hatq5474 hb0
                have hB : Bx B0 D _ [(w, .inr (5, [.ref f5473_0, .int (nI ((κ w).2.2.1)), .int (nI f5473_2), .int (nI f5473_3), .int f5473_4, .int (nI f5473_5), .int f5473_6, .int f5473_7, .int f5473_8, .ref f5473_9, .int (nI f5473_10), .ref (κ w).2.2.2, .int f5473_12, .int f5473_13])), ((κ w).2.2.2, .inr (6, [.int (nI f5468_0), .int f5468_1, .int f5468_2, .null, .ref f5468_4, .ref f5468_5, .ref f5468_6, .ref f5468_7])), (q5474, .inr (0, [.null, .null]))] [] _ _ := hB
                refine lv_dup hx hb dX5_readStatement_116 rfl ?_
                refine lv_aload_n hx hb dX5_readStatement_117 rfl (lv_at hl 0 rfl) ?_
                refine va_get (D := D) (ci := 5) (v := .ref f5473_9) (C := RX5) (T := TX5) (N := 14) hx hb hts iX5_readStatement_5 hown hN.1 hB.1 0 rfl rfl 9 (by decide) (hts _ mX5_readStatement_5) (fun _ h9 => h9) rfl dX5_readStatement_118 ?_
                refine lv_aload_n hx hb dX5_readStatement_121 rfl (lv_at hl 0 rfl) ?_
                refine va_get (D := D) (ci := 5) (v := .int (nI f5473_10)) (C := RX5) (T := TX5) (N := 14) hx hb hts iX5_readStatement_5 hown hN.1 hB.1 0 rfl rfl 10 (by decide) (hts _ mX5_readStatement_6) (fun _ h9 => h9) rfl dX5_readStatement_122 ?_
                have hT : WT B0 D cs T κ _ := hT.close hB trivial
                have hF : Fr B0 [10, 11] κ H0 _ := hF.close hB fa_n
                have hL : OkL B0 _ := hB.2.2.2.2.2
                have hP : va_P D vwCl [(w, .inr (5, [.ref f5473_0, .int (nI ((κ w).2.2.1)), .int (nI f5473_2), .int (nI f5473_3), .int f5473_4, .int (nI f5473_5), .int f5473_6, .int f5473_7, .int f5473_8, .ref f5473_9, .int (nI f5473_10), .ref (κ w).2.2.2, .int f5473_12, .int f5473_13])), ((κ w).2.2.2, .inr (6, [.int (nI f5468_0), .int f5468_1, .int f5468_2, .null, .ref f5468_4, .ref f5468_5, .ref f5468_6, .ref f5468_7])), (q5474, .inr (0, [.null, .null]))] _ := hB.1
                refine ci_v (As := [.ref f5473_9, .int (nI f5473_10)]) (rest := [.ref q5474, .ref (κ w).2.2.2]) (b := q5474) ⟨hx, hb, hml, hown, hts⟩ (c_X0_init hT (w := q5474) hfq5474 hbq5474 (hP 2 _ rfl) (v := f5473_9) t5473_9 (n := f5473_10) (by first | omega | decide | assumption)) (cwI 2 hts gX5_readStatement_X0_init rfl rfl rfl (hts _ mX5_readStatement_4) (hts _ mX5_readStatement_156) (hts _ mX5_readStatement_157) rfl hdX0_init_o ⟨Nat.le_of_ble_eq_true rfl, Nat.le_of_ble_eq_true rfl⟩) hN hE hL rfl rfl hl.1 (Nat.le_of_ble_eq_true rfl) dX5_readStatement_125 (show 1 + 2 ≤ 3 by omega) (show (0 + 2) + 616 ≤ 618 by omega) (fun H1 locs hL hqr5475 => ?_)
                obtain ⟨κr5475, hxr5475, hT1, hF1, hqr5475⟩ := hqr5475
                have hF := hF.tr (hF1.mono (by simp))
                have hT := hT1
                have hKF : KF κ κr5475 := hxr5475.f
                have hKX : KX κ κr5475 := hxr5475
                have hw := (hxr5475.f.t2 hw (by decide))
                have hsu := (hxr5475.f.t2 hsu (by decide))
                have hq5474 := hqr5475
                obtain ⟨hb5476, e5476, hat5476, hk5476⟩ := hT.o7 hsu.1
                obtain ⟨f5476_0, f5476_1, f5476_2, f5476_3, f5476_4, f5476_5, f5476_6, f5476_7, rfl, c5476_0, c5476_3, c5476_mg, t5476_4, t5476_5, t5476_6, t5476_7⟩ := hk5476
                rw [hsu.2] at t5476_4
                rw [hsu.2] at t5476_5
                rw [hsu.2] at t5476_6
                rw [hsu.2] at t5476_7
                have hP : va_P D vwCl [((κ w).2.2.2, .inr (6, [.int (nI f5476_0), .int f5476_1, .int f5476_2, f5476_3, .ref f5476_4, .ref f5476_5, .ref f5476_6, .ref f5476_7]))] _ := va_P.cons hat5476 va_P.nil
                have hB : Bx B0 D _ [((κ w).2.2.2, .inr (6, [.int (nI f5476_0), .int f5476_1, .int f5476_2, f5476_3, .ref f5476_4, .ref f5476_5, .ref f5476_6, .ref f5476_7]))] [] _ _ := Bx.of (fun a => (κr5475 a).1) hL hP (fa_c hb5476 fa_n) (by simp only [List.map_cons, List.map_nil, hsu.1]; decide)
                refine b_putN (D := D) (ci := 6) (v := .ref q5474) (ty := .object "OneBeat$Formula") (C := RX6) (T := TX6) (N := 8) hx hb hts iX5_readStatement_6 tyX6 tyX6_ok nmX6 hown hN hB 0 rfl rfl 3 (by decide) (hN.f 44 rfl) (fun _ h9 => h9) rfl (by decide +kernel) rfl rfl (Nat.le_of_ble_eq_true rfl) (.inl rfl) dX5_readStatement_128 (fun H locs hB => ?_)
                have hB : Bx B0 D _ [((κ w).2.2.2, .inr (6, [.int (nI f5476_0), .int f5476_1, .int f5476_2, .ref q5474, .ref f5476_4, .ref f5476_5, .ref f5476_6, .ref f5476_7]))] [(κ w).2.2.2] _ _ := hB
                refine lv_iconst (v := 1) hx hb dX5_readStatement_131 (by decide) ?_
                have hF : Fr B0 [10, 11] κ H0 _ := hF.closeN hB (fa_c (fun h9 => by rw [← (hKF _ h9).2, hsu.2]; simp) fa_n)
                have hT : WT B0 D cs T (kp κr5475 (κ w).2.2.2 1 0) _ := hT.closeK (κ w).2.2.2 1 0 hB (by rw [hsu.1]; decide) (by rw [hsu.1]; decide) (List.mem_of_getElem? (i := 0) rfl) ⟨⟨0, _, rfl, kp_ok (ok_7 (k := ((κr5475 (κ w).2.2.2).1, (κr5475 (κ w).2.2.2).2.1, _, _)) hsu.1 ⟨_, _, _, _, _, _, _, _, rfl, (by omega), (Or.inr ⟨_, rfl, (t2kp hq5474)⟩), (Or.inr ⟨_, rfl⟩), ⟨(t2kp t5476_4).1, by rw [hsu.2]; exact (t2kp t5476_4).2⟩, ⟨(t2kp t5476_5).1, by rw [hsu.2]; exact (t2kp t5476_5).2⟩, ⟨(t2kp t5476_6).1, by rw [hsu.2]; exact (t2kp t5476_6).2⟩, ⟨(t2kp t5476_7).1, by rw [hsu.2]; exact (t2kp t5476_7).2⟩⟩)⟩, trivial⟩
                have hL : OkL B0 _ := hB.2.2.2.2.2
                have hsu := t2kp (x := 1) (y := 0) (a := (κ w).2.2.2) hsu
                refine W.know (fun hg => ?_)
                rw [hH0] at hg
                exact en_i hx hb hr hlocks hL rfl (show 3 ≤ 3 by omega) (show ((0 + 2) + 616) ≤ 618 by omega) dX5_readStatement_132 (⟨_, (fun a h1 h2 => (kp_n h2).trans (hKX a h1)), hT, hF, hsu, Or.inr ⟨hmg1, by rw [kp_a], hg.mono (by omega) (by omega)⟩, Or.inr rfl⟩)
            · refine va_getN (D := D) (ci := 6) (v := .ref a5469) (C := RX6) (T := TX6) (N := 8) hx hb hts iX5_readStatement_6 hown hN.1 hP 0 rfl rfl 3 (by decide) (hN.f 44 rfl) (fun _ h9 => h9) rfl dX5_readStatement_89 ?_
              refine lv_ifnonnull (tgt := 133) hx hb dX5_readStatement_92 (by decide) ?_
              refine lv_aload_n hx hb dX5_readStatement_133 rfl (lv_at hl 0 rfl) ?_
              refine lv_bipush (v := (-2)) hx hb dX5_readStatement_134 (by decide) ?_
              refine lv_aload_n hx hb dX5_readStatement_136 rfl (lv_at hl 0 rfl) ?_
              refine va_get (D := D) (ci := 5) (v := .int (nI f5467_5)) (C := RX5) (T := TX5) (N := 14) hx hb hts iX5_readStatement_5 hown hN.1 hP 1 rfl rfl 5 (by decide) (hts _ mX5_readStatement_7) (fun _ h9 => h9) rfl dX5_readStatement_137 ?_
              refine cv_i (As := [.int (-2), .int (nI f5467_5)]) (rest := []) (b := w) ⟨hx, hb, hml, hown, hts⟩ (c_X5_fail hT (w := w) hw (x := (-2)) (y := (nI f5467_5))) (cwV 2 hts gX5_readStatement_X5_fail rfl rfl rfl hdX5_fail_v ⟨Nat.le_of_ble_eq_true rfl, Nat.le_of_ble_eq_true rfl⟩) hN hE hL (rcv6 hN hT hw.1) rfl rfl hl.1 (Nat.le_of_ble_eq_true rfl) dX5_readStatement_140 (Nat.zero_le _) (Nat.zero_le _) (fun r5477 H1 locs hL hqr5477 => ?_)
              obtain ⟨hT1, hF1, hqr5477⟩ := hqr5477
              have hP : va_P D vwCl [((κ w).2.2.2, .inr (6, [.int (nI f5468_0), .int f5468_1, .int f5468_2, .ref a5469, .ref f5468_4, .ref f5468_5, .ref f5468_6, .ref f5468_7]))] _ := hF1.hP (hP.sub [0] rfl) (fa_c ⟨by rw [hsu.1]; decide, by rw [hsu.2]; first | decide | (simp; done) | (simp [h15a, h15b, h15c]; done) | (simp; omega)⟩ fa_n)
              have hF := hF.tr (hF1.mono (by simp))
              have hT := hT1
              obtain rfl := hqr5477
              refine W.know (fun hg => ?_)
              rw [hH0] at hg
              exact en_i hx hb hr hlocks hL rfl (Nat.zero_le _) (Nat.zero_le _) dX5_readStatement_143 (⟨_, (fun _ _ _ => rfl), hT, hF, hsu, Or.inl ⟨rfl, hg⟩, Or.inl rfl⟩)
        · refine lv_if_eq (tgt := 76) hx hb dX5_readStatement_58 (by decide) (fun c9 => absurd c9 (by decide)) (fun _ => ?_)
          refine lv_aload_n hx hb dX5_readStatement_61 rfl (lv_at hl 0 rfl) ?_
          obtain ⟨hb5478, e5478, hat5478, hk5478⟩ := hT.o6 hw.1
          obtain ⟨f5478_0, f5478_2, f5478_3, f5478_4, f5478_5, f5478_6, f5478_7, f5478_8, f5478_9, f5478_10, f5478_11, f5478_12, f5478_13, rfl, c5478_1, c5478_2, c5478_3, c5478_5, c5478_10, t5478_0, t5478_9, c5478_11, c5478_p2⟩ := hk5478
          obtain rfl : f5478_11 = .ref (κ w).2.2.2 := c5478_p2.resolve_left hs0
          have hP : va_P D vwCl [(w, .inr (5, [.ref f5478_0, .int (nI ((κ w).2.2.1)), .int (nI f5478_2), .int (nI f5478_3), .int f5478_4, .int (nI f5478_5), .int f5478_6, .int f5478_7, .int f5478_8, .ref f5478_9, .int (nI f5478_10), .ref (κ w).2.2.2, .int f5478_12, .int f5478_13]))] _ := va_P.cons hat5478 va_P.nil
          refine va_get (D := D) (ci := 5) (v := .ref (κ w).2.2.2) (C := RX5) (T := TX5) (N := 14) hx hb hts iX5_readStatement_5 hown hN.1 hP 0 rfl rfl 11 (by decide) (hts _ mX5_readStatement_1) (fun _ h9 => h9) rfl dX5_readStatement_62 ?_
          obtain ⟨hb5479, e5479, hat5479, hk5479⟩ := hT.o7 hsu.1
          obtain ⟨f5479_0, f5479_1, f5479_2, f5479_3, f5479_4, f5479_5, f5479_6, f5479_7, rfl, c5479_0, c5479_3, c5479_mg, t5479_4, t5479_5, t5479_6, t5479_7⟩ := hk5479
          rw [hsu.2] at t5479_4
          rw [hsu.2] at t5479_5
          rw [hsu.2] at t5479_6
          rw [hsu.2] at t5479_7
          have hP : va_P D vwCl [((κ w).2.2.2, .inr (6, [.int (nI f5479_0), .int f5479_1, .int f5479_2, f5479_3, .ref f5479_4, .ref f5479_5, .ref f5479_6, .ref f5479_7])), (w, .inr (5, [.ref f5478_0, .int (nI ((κ w).2.2.1)), .int (nI f5478_2), .int (nI f5478_3), .int f5478_4, .int (nI f5478_5), .int f5478_6, .int f5478_7, .int f5478_8, .ref f5478_9, .int (nI f5478_10), .ref (κ w).2.2.2, .int f5478_12, .int f5478_13]))] _ := va_P.cons hat5479 hP
          refine va_getN (D := D) (ci := 6) (v := .int f5479_2) (C := RX6) (T := TX6) (N := 8) hx hb hts iX5_readStatement_6 hown hN.1 hP 0 rfl rfl 2 (by decide) (hN.f 42 rfl) (fun _ h9 => h9) rfl dX5_readStatement_65 ?_
          refine lv_if_ne (tgt := 76) hx hb dX5_readStatement_68 (by decide) (fun c5480 => ?_) (fun c5480 => ?_)
          · refine lv_aload_n hx hb dX5_readStatement_76 rfl (lv_at hl 0 rfl) ?_
            refine va_ldcS hx hb hown (hN.s 6 rfl) dX5_readStatement_77 ?_
            refine cv_i (As := [.ref (cs 106)]) (rest := []) (b := w) ⟨hx, hb, hml, hown, hts⟩ (c_X5_isWord hT (w := w) hw (i := 6) (by decide)) (cwV 1 hts gX5_readStatement_X5_isWord rfl rfl rfl hdX5_isWord_v ⟨Nat.le_of_ble_eq_true rfl, Nat.le_of_ble_eq_true rfl⟩) hN hE hL (rcv6 hN hT hw.1) rfl rfl hl.1 (Nat.le_of_ble_eq_true rfl) dX5_readStatement_79 (Nat.zero_le _) (Nat.zero_le _) (fun r5481 H1 locs hL hqr5481 => ?_)
            obtain ⟨h9, hqr5481⟩ := hqr5481; replace h9 := h9.symm; subst h9
            rcases hqr5481 with rfl | rfl
            · refine lv_if_eq (tgt := 133) hx hb dX5_readStatement_82 (by decide) (fun _ => ?_) (fun c9 => absurd (by decide) c9)
              refine lv_aload_n hx hb dX5_readStatement_133 rfl (lv_at hl 0 rfl) ?_
              refine lv_bipush (v := (-2)) hx hb dX5_readStatement_134 (by decide) ?_
              refine lv_aload_n hx hb dX5_readStatement_136 rfl (lv_at hl 0 rfl) ?_
              refine va_get (D := D) (ci := 5) (v := .int (nI f5478_5)) (C := RX5) (T := TX5) (N := 14) hx hb hts iX5_readStatement_5 hown hN.1 hP 1 rfl rfl 5 (by decide) (hts _ mX5_readStatement_7) (fun _ h9 => h9) rfl dX5_readStatement_137 ?_
              refine cv_i (As := [.int (-2), .int (nI f5478_5)]) (rest := []) (b := w) ⟨hx, hb, hml, hown, hts⟩ (c_X5_fail hT (w := w) hw (x := (-2)) (y := (nI f5478_5))) (cwV 2 hts gX5_readStatement_X5_fail rfl rfl rfl hdX5_fail_v ⟨Nat.le_of_ble_eq_true rfl, Nat.le_of_ble_eq_true rfl⟩) hN hE hL (rcv6 hN hT hw.1) rfl rfl hl.1 (Nat.le_of_ble_eq_true rfl) dX5_readStatement_140 (Nat.zero_le _) (Nat.zero_le _) (fun r5482 H1 locs hL hqr5482 => ?_)
              obtain ⟨hT1, hF1, hqr5482⟩ := hqr5482
              have hP : va_P D vwCl [((κ w).2.2.2, .inr (6, [.int (nI f5479_0), .int f5479_1, .int f5479_2, f5479_3, .ref f5479_4, .ref f5479_5, .ref f5479_6, .ref f5479_7]))] _ := hF1.hP (hP.sub [0] rfl) (fa_c ⟨by rw [hsu.1]; decide, by rw [hsu.2]; first | decide | (simp; done) | (simp [h15a, h15b, h15c]; done) | (simp; omega)⟩ fa_n)
              have hF := hF.tr (hF1.mono (by simp))
              have hT := hT1
              obtain rfl := hqr5482
              refine W.know (fun hg => ?_)
              rw [hH0] at hg
              exact en_i hx hb hr hlocks hL rfl (Nat.zero_le _) (Nat.zero_le _) dX5_readStatement_143 (⟨_, (fun _ _ _ => rfl), hT, hF, hsu, Or.inl ⟨rfl, hg⟩, Or.inl rfl⟩)
            · refine lv_if_eq (tgt := 133) hx hb dX5_readStatement_82 (by decide) (fun c9 => absurd c9 (by decide)) (fun _ => ?_)
              refine lv_aload_n hx hb dX5_readStatement_85 rfl (lv_at hl 0 rfl) ?_
              refine va_get (D := D) (ci := 5) (v := .ref (κ w).2.2.2) (C := RX5) (T := TX5) (N := 14) hx hb hts iX5_readStatement_5 hown hN.1 hP 1 rfl rfl 11 (by decide) (hts _ mX5_readStatement_1) (fun _ h9 => h9) rfl dX5_readStatement_86 ?_
              rcases c5479_3 with rfl | ⟨a5483, rfl, ta5483⟩
              · refine va_getN (D := D) (ci := 6) (v := .null) (C := RX6) (T := TX6) (N := 8) hx hb hts iX5_readStatement_6 hown hN.1 hP 0 rfl rfl 3 (by decide) (hN.f 44 rfl) (fun _ h9 => h9) rfl dX5_readStatement_89 ?_
                refine lv_ifnonnullN hx hb dX5_readStatement_92 ?_
                have hmg1 : (κ (κ w).2.2.2).2.2.1 ≠ 1 := (c5479_mg).resolve_right (by rintro ⟨_, h9⟩; cases h9)
                refine lv_aload_n hx hb dX5_readStatement_95 rfl (lv_at hl 0 rfl) ?_
                refine cv_v (As := []) (rest := []) (b := w) ⟨hx, hb, hml, hown, hts⟩ (c_X5_step hT (w := w) hw) (cwV 0 hts gX5_readStatement_X5_step rfl rfl rfl hdX5_step_v ⟨Nat.le_of_ble_eq_true rfl, Nat.le_of_ble_eq_true rfl⟩) hN hE hL (rcv6 hN hT hw.1) rfl rfl hl.1 (Nat.le_of_ble_eq_true rfl) dX5_readStatement_96 (Nat.zero_le _) (Nat.zero_le _) (fun H1 locs hL hqr5484 => ?_)
                obtain ⟨hT1, hF1, hqr5484⟩ := hqr5484
                have hP : va_P D vwCl [((κ w).2.2.2, .inr (6, [.int (nI f5479_0), .int f5479_1, .int f5479_2, .null, .ref f5479_4, .ref f5479_5, .ref f5479_6, .ref f5479_7]))] _ := hF1.hP (hP.sub [0] rfl) (fa_c ⟨by rw [hsu.1]; decide, by rw [hsu.2]; first | decide | (simp; done) | (simp [h15a, h15b, h15c]; done) | (simp; omega)⟩ fa_n)
                have hF := hF.tr (hF1.mono (by simp))
                have hT := hT1
                have f5485 := hqr5484
                refine lv_aload_n hx hb dX5_readStatement_99 rfl (lv_at hl 0 rfl) ?_
                refine lv_iconst (v := 0) hx hb dX5_readStatement_100 (by decide) ?_
                refine cv_i (As := [.int 0]) (rest := []) (b := w) ⟨hx, hb, hml, hown, hts⟩ (c_X5_readSum_d0 hT (w := w) hw) (cwV 1 hts gX5_readStatement_X5_readSum rfl rfl rfl hdX5_readSum_v ⟨Nat.le_of_ble_eq_true rfl, Nat.le_of_ble_eq_true rfl⟩) hN hE hL (rcv6 hN hT hw.1) rfl rfl hl.1 (Nat.le_of_ble_eq_true rfl) dX5_readStatement_101 (Nat.zero_le _) (Nat.zero_le _) (fun r5486 H1 locs hL hqr5486 => ?_)
                obtain ⟨hT1, hF1, hqr5486⟩ := hqr5486
                have hP : va_P D vwCl [((κ w).2.2.2, .inr (6, [.int (nI f5479_0), .int f5479_1, .int f5479_2, .null, .ref f5479_4, .ref f5479_5, .ref f5479_6, .ref f5479_7]))] _ := hF1.hP (hP.sub [0] rfl) (fa_c ⟨by rw [hsu.1]; decide, by rw [hsu.2]; first | decide | (simp; done) | (simp [h15a, h15b, h15c]; done) | (simp; omega)⟩ fa_n)
                have hF := hF.tr (hF1.mono (by simp))
                have hT := hT1
                rcases hqr5486 with rfl | rfl
                · refine lv_if_ne (tgt := 109) hx hb dX5_readStatement_104 (by decide) (fun c9 => absurd (by decide) c9) (fun _ => ?_)
                  refine lv_iconst (v := 0) hx hb dX5_readStatement_107 (by decide) ?_
                  refine W.know (fun hg => ?_)
                  rw [hH0] at hg
                  exact en_i hx hb hr hlocks hL rfl (Nat.zero_le _) (Nat.zero_le _) dX5_readStatement_108 (⟨_, (fun _ _ _ => rfl), hT, hF, hsu, Or.inl ⟨rfl, hg⟩, Or.inl rfl⟩)
                · refine lv_if_ne (tgt := 109) hx hb dX5_readStatement_104 (by decide) (fun _ => ?_) (fun c9 => absurd c9 (by decide))
                  refine lv_aload_n hx hb dX5_readStatement_109 rfl (lv_at hl 0 rfl) ?_
                  obtain ⟨hb5487, e5487, hat5487, hk5487⟩ := hT.o6 hw.1
                  obtain ⟨f5487_0, f5487_2, f5487_3, f5487_4, f5487_5, f5487_6, f5487_7, f5487_8, f5487_9, f5487_10, f5487_11, f5487_12, f5487_13, rfl, c5487_1, c5487_2, c5487_3, c5487_5, c5487_10, t5487_0, t5487_9, c5487_11, c5487_p2⟩ := hk5487
                  obtain rfl : f5487_11 = .ref (κ w).2.2.2 := c5487_p2.resolve_left hs0
                  have hP : va_P D vwCl [(w, .inr (5, [.ref f5487_0, .int (nI ((κ w).2.2.1)), .int (nI f5487_2), .int (nI f5487_3), .int f5487_4, .int (nI f5487_5), .int f5487_6, .int f5487_7, .int f5487_8, .ref f5487_9, .int (nI f5487_10), .ref (κ w).2.2.2, .int f5487_12, .int f5487_13])), ((κ w).2.2.2, .inr (6, [.int (nI f5479_0), .int f5479_1, .int f5479_2, .null, .ref f5479_4, .ref f5479_5, .ref f5479_6, .ref f5479_7]))] _ := va_P.cons hat5487 hP
                  refine va_get (D := D) (ci := 5) (v := .ref (κ w).2.2.2) (C := RX5) (T := TX5) (N := 14) hx hb hts iX5_readStatement_5 hown hN.1 hP 0 rfl rfl 11 (by decide) (hts _ mX5_readStatement_1) (fun _ h9 => h9) rfl dX5_readStatement_110 ?_
                  have hb0 : B0 ≤ _ := hT.b0 hw (by decide)
                  have hB : Bx B0 D _ [(w, .inr (5, [.ref f5487_0, .int (nI ((κ w).2.2.1)), .int (nI f5487_2), .int (nI f5487_3), .int f5487_4, .int (nI f5487_5), .int f5487_6, .int f5487_7, .int f5487_8, .ref f5487_9, .int (nI f5487_10), .ref (κ w).2.2.2, .int f5487_12, .int f5487_13])), ((κ w).2.2.2, .inr (6, [.int (nI f5479_0), .int f5479_1, .int f5479_2, .null, .ref f5479_4, .ref f5479_5, .ref f5479_6, .ref f5479_7]))] [] _ _ := Bx.of (fun a => (κ a).1) hL hP (fa_c hb5487 (fa_c hb5479 fa_n)) (by simp only [List.map_cons, List.map_nil, hw.1, hsu.1]; decide)
                  refine nw_o (ci := 0) (fs := [.null, .null]) (C := RX0) (T := TX0) (N := 2) hx hb hts iX5_readStatement_0 tyX0 tyX0_ok hown (hts _ mX5_readStatement_2) (hts _ mX5_readStatement_3) (hts _ mX5_readStatement_4) hN rfl dfl0 (show 0 + 1 ≤ 3 by omega) (show 0 + 2 ≤ 618 by omega) dX5_readStatement_113 (fun q5488 H heq5488 hzq5488 hoq5488 hatq5488 => ?_)
                  have hgeq5488 : _ ≤ q5488 := Nat.le_trans hB.2.2.1 (Nat.le_of_eq heq5488.symm)
                  have hbq5488 : B0 ≤ q5488 := Nat.le_trans hb0 hgeq5488
                  have hfq5488 : (κ q5488).1 = 0 := hT.fresh hgeq5488
                  have hB := hB.nw heq5488 hzq5488 hoq5488 hatq5488 hb0
                  have hB : Bx B0 D _ [(w, .inr (5, [.ref f5487_0, .int (nI ((κ w).2.2.1)), .int (nI f5487_2), .int (nI f5487_3), .int f5487_4, .int (nI f5487_5), .int f5487_6, .int f5487_7, .int f5487_8, .ref f5487_9, .int (nI f5487_10), .ref (κ w).2.2.2, .int f5487_12, .int f5487_13])), ((κ w).2.2.2, .inr (6, [.int (nI f5479_0), .int f5479_1, .int f5479_2, .null, .ref f5479_4, .ref f5479_5, .ref f5479_6, .ref f5479_7])), (q5488, .inr (0, [.null, .null]))] [] _ _ := hB
                  refine lv_dup hx hb dX5_readStatement_116 rfl ?_
                  refine lv_aload_n hx hb dX5_readStatement_117 rfl (lv_at hl 0 rfl) ?_
                  refine va_get (D := D) (ci := 5) (v := .ref f5487_9) (C := RX5) (T := TX5) (N := 14) hx hb hts iX5_readStatement_5 hown hN.1 hB.1 0 rfl rfl 9 (by decide) (hts _ mX5_readStatement_5) (fun _ h9 => h9) rfl dX5_readStatement_118 ?_
                  refine lv_aload_n hx hb dX5_readStatement_121 rfl (lv_at hl 0 rfl) ?_
                  refine va_get (D := D) (ci := 5) (v := .int (nI f5487_10)) (C := RX5) (T := TX5) (N := 14) hx hb hts iX5_readStatement_5 hown hN.1 hB.1 0 rfl rfl 10 (by decide) (hts _ mX5_readStatement_6) (fun _ h9 => h9) rfl dX5_readStatement_122 ?_
                  have hT : WT B0 D cs T κ _ := hT.close hB trivial
                  have hF : Fr B0 [10, 11] κ H0 _ := hF.close hB fa_n
                  have hL : OkL B0 _ := hB.2.2.2.2.2
                  have hP : va_P D vwCl [(w, .inr (5, [.ref f5487_0, .int (nI ((κ w).2.2.1)), .int (nI f5487_2), .int (nI f5487_3), .int f5487_4, .int (nI f5487_5), .int f5487_6, .int f5487_7, .int f5487_8, .ref f5487_9, .int (nI f5487_10), .ref (κ w).2.2.2, .int f5487_12, .int f5487_13])), ((κ w).2.2.2, .inr (6, [.int (nI f5479_0), .int f5479_1, .int f5479_2, .null, .ref f5479_4, .ref f5479_5, .ref f5479_6, .ref f5479_7])), (q5488, .inr (0, [.null, .null]))] _ := hB.1
                  refine ci_v (As := [.ref f5487_9, .int (nI f5487_10)]) (rest := [.ref q5488, .ref (κ w).2.2.2]) (b := q5488) ⟨hx, hb, hml, hown, hts⟩ (c_X0_init hT (w := q5488) hfq5488 hbq5488 (hP 2 _ rfl) (v := f5487_9) t5487_9 (n := f5487_10) (by first | omega | decide | assumption)) (cwI 2 hts gX5_readStatement_X0_init rfl rfl rfl (hts _ mX5_readStatement_4) (hts _ mX5_readStatement_156) (hts _ mX5_readStatement_157) rfl hdX0_init_o ⟨Nat.le_of_ble_eq_true rfl, Nat.le_of_ble_eq_true rfl⟩) hN hE hL rfl rfl hl.1 (Nat.le_of_ble_eq_true rfl) dX5_readStatement_125 (show 1 + 2 ≤ 3 by omega) (show (0 + 2) + 616 ≤ 618 by omega) (fun H1 locs hL hqr5489 => ?_)
                  obtain ⟨κr5489, hxr5489, hT1, hF1, hqr5489⟩ := hqr5489
                  have hF := hF.tr (hF1.mono (by simp))
                  have hT := hT1
                  have hKF : KF κ κr5489 := hxr5489.f
                  have hKX : KX κ κr5489 := hxr5489
                  have hw := (hxr5489.f.t2 hw (by decide))
                  have hsu := (hxr5489.f.t2 hsu (by decide))
                  have hq5488 := hqr5489
                  obtain ⟨hb5490, e5490, hat5490, hk5490⟩ := hT.o7 hsu.1
                  obtain ⟨f5490_0, f5490_1, f5490_2, f5490_3, f5490_4, f5490_5, f5490_6, f5490_7, rfl, c5490_0, c5490_3, c5490_mg, t5490_4, t5490_5, t5490_6, t5490_7⟩ := hk5490
                  rw [hsu.2] at t5490_4
                  rw [hsu.2] at t5490_5
                  rw [hsu.2] at t5490_6
                  rw [hsu.2] at t5490_7
                  have hP : va_P D vwCl [((κ w).2.2.2, .inr (6, [.int (nI f5490_0), .int f5490_1, .int f5490_2, f5490_3, .ref f5490_4, .ref f5490_5, .ref f5490_6, .ref f5490_7]))] _ := va_P.cons hat5490 va_P.nil
                  have hB : Bx B0 D _ [((κ w).2.2.2, .inr (6, [.int (nI f5490_0), .int f5490_1, .int f5490_2, f5490_3, .ref f5490_4, .ref f5490_5, .ref f5490_6, .ref f5490_7]))] [] _ _ := Bx.of (fun a => (κr5489 a).1) hL hP (fa_c hb5490 fa_n) (by simp only [List.map_cons, List.map_nil, hsu.1]; decide)
                  refine b_putN (D := D) (ci := 6) (v := .ref q5488) (ty := .object "OneBeat$Formula") (C := RX6) (T := TX6) (N := 8) hx hb hts iX5_readStatement_6 tyX6 tyX6_ok nmX6 hown hN hB 0 rfl rfl 3 (by decide) (hN.f 44 rfl) (fun _ h9 => h9) rfl (by decide +kernel) rfl rfl (Nat.le_of_ble_eq_true rfl) (.inl rfl) dX5_readStatement_128 (fun H locs hB => ?_)
                  have hB : Bx B0 D _ [((κ w).2.2.2, .inr (6, [.int (nI f5490_0), .int f5490_1, .int f5490_2, .ref q5488, .ref f5490_4, .ref f5490_5, .ref f5490_6, .ref f5490_7]))] [(κ w).2.2.2] _ _ := hB
                  refine lv_iconst (v := 1) hx hb dX5_readStatement_131 (by decide) ?_
                  have hF : Fr B0 [10, 11] κ H0 _ := hF.closeN hB (fa_c (fun h9 => by rw [← (hKF _ h9).2, hsu.2]; simp) fa_n)
                  have hT : WT B0 D cs T (kp κr5489 (κ w).2.2.2 1 0) _ := hT.closeK (κ w).2.2.2 1 0 hB (by rw [hsu.1]; decide) (by rw [hsu.1]; decide) (List.mem_of_getElem? (i := 0) rfl) ⟨⟨0, _, rfl, kp_ok (ok_7 (k := ((κr5489 (κ w).2.2.2).1, (κr5489 (κ w).2.2.2).2.1, _, _)) hsu.1 ⟨_, _, _, _, _, _, _, _, rfl, (by omega), (Or.inr ⟨_, rfl, (t2kp hq5488)⟩), (Or.inr ⟨_, rfl⟩), ⟨(t2kp t5490_4).1, by rw [hsu.2]; exact (t2kp t5490_4).2⟩, ⟨(t2kp t5490_5).1, by rw [hsu.2]; exact (t2kp t5490_5).2⟩, ⟨(t2kp t5490_6).1, by rw [hsu.2]; exact (t2kp t5490_6).2⟩, ⟨(t2kp t5490_7).1, by rw [hsu.2]; exact (t2kp t5490_7).2⟩⟩)⟩, trivial⟩
                  have hL : OkL B0 _ := hB.2.2.2.2.2
                  have hsu := t2kp (x := 1) (y := 0) (a := (κ w).2.2.2) hsu
                  refine W.know (fun hg => ?_)
                  rw [hH0] at hg
                  exact en_i hx hb hr hlocks hL rfl (show 3 ≤ 3 by omega) (show ((0 + 2) + 616) ≤ 618 by omega) dX5_readStatement_132 (⟨_, (fun a h1 h2 => (kp_n h2).trans (hKX a h1)), hT, hF, hsu, Or.inr ⟨hmg1, by rw [kp_a], hg.mono (by omega) (by omega)⟩, Or.inr rfl⟩)
              · refine va_getN (D := D) (ci := 6) (v := .ref a5483) (C := RX6) (T := TX6) (N := 8) hx hb hts iX5_readStatement_6 hown hN.1 hP 0 rfl rfl 3 (by decide) (hN.f 44 rfl) (fun _ h9 => h9) rfl dX5_readStatement_89 ?_
                refine lv_ifnonnull (tgt := 133) hx hb dX5_readStatement_92 (by decide) ?_
                refine lv_aload_n hx hb dX5_readStatement_133 rfl (lv_at hl 0 rfl) ?_
                refine lv_bipush (v := (-2)) hx hb dX5_readStatement_134 (by decide) ?_
                refine lv_aload_n hx hb dX5_readStatement_136 rfl (lv_at hl 0 rfl) ?_
                refine va_get (D := D) (ci := 5) (v := .int (nI f5478_5)) (C := RX5) (T := TX5) (N := 14) hx hb hts iX5_readStatement_5 hown hN.1 hP 1 rfl rfl 5 (by decide) (hts _ mX5_readStatement_7) (fun _ h9 => h9) rfl dX5_readStatement_137 ?_
                refine cv_i (As := [.int (-2), .int (nI f5478_5)]) (rest := []) (b := w) ⟨hx, hb, hml, hown, hts⟩ (c_X5_fail hT (w := w) hw (x := (-2)) (y := (nI f5478_5))) (cwV 2 hts gX5_readStatement_X5_fail rfl rfl rfl hdX5_fail_v ⟨Nat.le_of_ble_eq_true rfl, Nat.le_of_ble_eq_true rfl⟩) hN hE hL (rcv6 hN hT hw.1) rfl rfl hl.1 (Nat.le_of_ble_eq_true rfl) dX5_readStatement_140 (Nat.zero_le _) (Nat.zero_le _) (fun r5491 H1 locs hL hqr5491 => ?_)
                obtain ⟨hT1, hF1, hqr5491⟩ := hqr5491
                have hP : va_P D vwCl [((κ w).2.2.2, .inr (6, [.int (nI f5479_0), .int f5479_1, .int f5479_2, .ref a5483, .ref f5479_4, .ref f5479_5, .ref f5479_6, .ref f5479_7]))] _ := hF1.hP (hP.sub [0] rfl) (fa_c ⟨by rw [hsu.1]; decide, by rw [hsu.2]; first | decide | (simp; done) | (simp [h15a, h15b, h15c]; done) | (simp; omega)⟩ fa_n)
                have hF := hF.tr (hF1.mono (by simp))
                have hT := hT1
                obtain rfl := hqr5491
                refine W.know (fun hg => ?_)
                rw [hH0] at hg
                exact en_i hx hb hr hlocks hL rfl (Nat.zero_le _) (Nat.zero_le _) dX5_readStatement_143 (⟨_, (fun _ _ _ => rfl), hT, hF, hsu, Or.inl ⟨rfl, hg⟩, Or.inl rfl⟩)
          · refine lv_aload_n hx hb dX5_readStatement_71 rfl (lv_at hl 0 rfl) ?_
            refine cv_i (As := []) (rest := []) (b := w) ⟨hx, hb, hml, hown, hts⟩ (c_X5_readPatience hT (w := w) hw (by first | omega | decide | assumption) (by first | omega | decide | assumption)) (cwV 0 hts gX5_readStatement_X5_readPatience rfl rfl rfl hdX5_readPatience_v ⟨Nat.le_of_ble_eq_true rfl, Nat.le_of_ble_eq_true rfl⟩) hN hE hL (rcv6 hN hT hw.1) rfl rfl hl.1 (Nat.le_of_ble_eq_true rfl) dX5_readStatement_72 (Nat.zero_le _) (Nat.zero_le _) (fun r5492 H1 locs hL hqr5492 => ?_)
            obtain ⟨hT1, hF1, hqr5492⟩ := hqr5492
            have hF := hF.tr (hF1.mono (by simp))
            have hT := hT1
            rcases hqr5492 with rfl | rfl
            · refine W.know (fun hg => ?_)
              rw [hH0] at hg
              exact en_i hx hb hr hlocks hL rfl (Nat.zero_le _) (Nat.zero_le _) dX5_readStatement_75 (⟨_, (fun _ _ _ => rfl), hT, hF, hsu, Or.inl ⟨rfl, hg⟩, Or.inl rfl⟩)
            · refine W.know (fun hg => ?_)
              rw [hH0] at hg
              exact en_i hx hb hr hlocks hL rfl (Nat.zero_le _) (Nat.zero_le _) dX5_readStatement_75 (⟨_, (fun _ _ _ => rfl), hT, hF, hsu, Or.inl ⟨rfl, hg⟩, Or.inr rfl⟩)
      · refine lv_if_eq (tgt := 52) hx hb dX5_readStatement_34 (by decide) (fun c9 => absurd c9 (by decide)) (fun _ => ?_)
        refine lv_aload_n hx hb dX5_readStatement_37 rfl (lv_at hl 0 rfl) ?_
        obtain ⟨hb5493, e5493, hat5493, hk5493⟩ := hT.o6 hw.1
        obtain ⟨f5493_0, f5493_2, f5493_3, f5493_4, f5493_5, f5493_6, f5493_7, f5493_8, f5493_9, f5493_10, f5493_11, f5493_12, f5493_13, rfl, c5493_1, c5493_2, c5493_3, c5493_5, c5493_10, t5493_0, t5493_9, c5493_11, c5493_p2⟩ := hk5493
        obtain rfl : f5493_11 = .ref (κ w).2.2.2 := c5493_p2.resolve_left hs0
        have hP : va_P D vwCl [(w, .inr (5, [.ref f5493_0, .int (nI ((κ w).2.2.1)), .int (nI f5493_2), .int (nI f5493_3), .int f5493_4, .int (nI f5493_5), .int f5493_6, .int f5493_7, .int f5493_8, .ref f5493_9, .int (nI f5493_10), .ref (κ w).2.2.2, .int f5493_12, .int f5493_13]))] _ := va_P.cons hat5493 va_P.nil
        refine va_get (D := D) (ci := 5) (v := .ref (κ w).2.2.2) (C := RX5) (T := TX5) (N := 14) hx hb hts iX5_readStatement_5 hown hN.1 hP 0 rfl rfl 11 (by decide) (hts _ mX5_readStatement_1) (fun _ h9 => h9) rfl dX5_readStatement_38 ?_
        obtain ⟨hb5494, e5494, hat5494, hk5494⟩ := hT.o7 hsu.1
        obtain ⟨f5494_0, f5494_1, f5494_2, f5494_3, f5494_4, f5494_5, f5494_6, f5494_7, rfl, c5494_0, c5494_3, c5494_mg, t5494_4, t5494_5, t5494_6, t5494_7⟩ := hk5494
        rw [hsu.2] at t5494_4
        rw [hsu.2] at t5494_5
        rw [hsu.2] at t5494_6
        rw [hsu.2] at t5494_7
        have hP : va_P D vwCl [((κ w).2.2.2, .inr (6, [.int (nI f5494_0), .int f5494_1, .int f5494_2, f5494_3, .ref f5494_4, .ref f5494_5, .ref f5494_6, .ref f5494_7])), (w, .inr (5, [.ref f5493_0, .int (nI ((κ w).2.2.1)), .int (nI f5493_2), .int (nI f5493_3), .int f5493_4, .int (nI f5493_5), .int f5493_6, .int f5493_7, .int f5493_8, .ref f5493_9, .int (nI f5493_10), .ref (κ w).2.2.2, .int f5493_12, .int f5493_13]))] _ := va_P.cons hat5494 hP
        refine va_getN (D := D) (ci := 6) (v := .int f5494_1) (C := RX6) (T := TX6) (N := 8) hx hb hts iX5_readStatement_6 hown hN.1 hP 0 rfl rfl 1 (by decide) (hN.f 40 rfl) (fun _ h9 => h9) rfl dX5_readStatement_41 ?_
        refine lv_if_ne (tgt := 52) hx hb dX5_readStatement_44 (by decide) (fun c5495 => ?_) (fun c5495 => ?_)
        · refine lv_aload_n hx hb dX5_readStatement_52 rfl (lv_at hl 0 rfl) ?_
          refine va_ldcS hx hb hown (hN.s 5 rfl) dX5_readStatement_53 ?_
          refine cv_i (As := [.ref (cs 105)]) (rest := []) (b := w) ⟨hx, hb, hml, hown, hts⟩ (c_X5_isWord hT (w := w) hw (i := 5) (by decide)) (cwV 1 hts gX5_readStatement_X5_isWord rfl rfl rfl hdX5_isWord_v ⟨Nat.le_of_ble_eq_true rfl, Nat.le_of_ble_eq_true rfl⟩) hN hE hL (rcv6 hN hT hw.1) rfl rfl hl.1 (Nat.le_of_ble_eq_true rfl) dX5_readStatement_55 (Nat.zero_le _) (Nat.zero_le _) (fun r5496 H1 locs hL hqr5496 => ?_)
          obtain ⟨h9, hqr5496⟩ := hqr5496; replace h9 := h9.symm; subst h9
          rcases hqr5496 with rfl | rfl
          · refine lv_if_eq (tgt := 76) hx hb dX5_readStatement_58 (by decide) (fun _ => ?_) (fun c9 => absurd (by decide) c9)
            refine lv_aload_n hx hb dX5_readStatement_76 rfl (lv_at hl 0 rfl) ?_
            refine va_ldcS hx hb hown (hN.s 6 rfl) dX5_readStatement_77 ?_
            refine cv_i (As := [.ref (cs 106)]) (rest := []) (b := w) ⟨hx, hb, hml, hown, hts⟩ (c_X5_isWord hT (w := w) hw (i := 6) (by decide)) (cwV 1 hts gX5_readStatement_X5_isWord rfl rfl rfl hdX5_isWord_v ⟨Nat.le_of_ble_eq_true rfl, Nat.le_of_ble_eq_true rfl⟩) hN hE hL (rcv6 hN hT hw.1) rfl rfl hl.1 (Nat.le_of_ble_eq_true rfl) dX5_readStatement_79 (Nat.zero_le _) (Nat.zero_le _) (fun r5497 H1 locs hL hqr5497 => ?_)
            obtain ⟨h9, hqr5497⟩ := hqr5497; replace h9 := h9.symm; subst h9
            rcases hqr5497 with rfl | rfl
            · refine lv_if_eq (tgt := 133) hx hb dX5_readStatement_82 (by decide) (fun _ => ?_) (fun c9 => absurd (by decide) c9)
              refine lv_aload_n hx hb dX5_readStatement_133 rfl (lv_at hl 0 rfl) ?_
              refine lv_bipush (v := (-2)) hx hb dX5_readStatement_134 (by decide) ?_
              refine lv_aload_n hx hb dX5_readStatement_136 rfl (lv_at hl 0 rfl) ?_
              refine va_get (D := D) (ci := 5) (v := .int (nI f5493_5)) (C := RX5) (T := TX5) (N := 14) hx hb hts iX5_readStatement_5 hown hN.1 hP 1 rfl rfl 5 (by decide) (hts _ mX5_readStatement_7) (fun _ h9 => h9) rfl dX5_readStatement_137 ?_
              refine cv_i (As := [.int (-2), .int (nI f5493_5)]) (rest := []) (b := w) ⟨hx, hb, hml, hown, hts⟩ (c_X5_fail hT (w := w) hw (x := (-2)) (y := (nI f5493_5))) (cwV 2 hts gX5_readStatement_X5_fail rfl rfl rfl hdX5_fail_v ⟨Nat.le_of_ble_eq_true rfl, Nat.le_of_ble_eq_true rfl⟩) hN hE hL (rcv6 hN hT hw.1) rfl rfl hl.1 (Nat.le_of_ble_eq_true rfl) dX5_readStatement_140 (Nat.zero_le _) (Nat.zero_le _) (fun r5498 H1 locs hL hqr5498 => ?_)
              obtain ⟨hT1, hF1, hqr5498⟩ := hqr5498
              have hP : va_P D vwCl [((κ w).2.2.2, .inr (6, [.int (nI f5494_0), .int f5494_1, .int f5494_2, f5494_3, .ref f5494_4, .ref f5494_5, .ref f5494_6, .ref f5494_7]))] _ := hF1.hP (hP.sub [0] rfl) (fa_c ⟨by rw [hsu.1]; decide, by rw [hsu.2]; first | decide | (simp; done) | (simp [h15a, h15b, h15c]; done) | (simp; omega)⟩ fa_n)
              have hF := hF.tr (hF1.mono (by simp))
              have hT := hT1
              obtain rfl := hqr5498
              refine W.know (fun hg => ?_)
              rw [hH0] at hg
              exact en_i hx hb hr hlocks hL rfl (Nat.zero_le _) (Nat.zero_le _) dX5_readStatement_143 (⟨_, (fun _ _ _ => rfl), hT, hF, hsu, Or.inl ⟨rfl, hg⟩, Or.inl rfl⟩)
            · refine lv_if_eq (tgt := 133) hx hb dX5_readStatement_82 (by decide) (fun c9 => absurd c9 (by decide)) (fun _ => ?_)
              refine lv_aload_n hx hb dX5_readStatement_85 rfl (lv_at hl 0 rfl) ?_
              refine va_get (D := D) (ci := 5) (v := .ref (κ w).2.2.2) (C := RX5) (T := TX5) (N := 14) hx hb hts iX5_readStatement_5 hown hN.1 hP 1 rfl rfl 11 (by decide) (hts _ mX5_readStatement_1) (fun _ h9 => h9) rfl dX5_readStatement_86 ?_
              rcases c5494_3 with rfl | ⟨a5499, rfl, ta5499⟩
              · refine va_getN (D := D) (ci := 6) (v := .null) (C := RX6) (T := TX6) (N := 8) hx hb hts iX5_readStatement_6 hown hN.1 hP 0 rfl rfl 3 (by decide) (hN.f 44 rfl) (fun _ h9 => h9) rfl dX5_readStatement_89 ?_
                refine lv_ifnonnullN hx hb dX5_readStatement_92 ?_
                have hmg1 : (κ (κ w).2.2.2).2.2.1 ≠ 1 := (c5494_mg).resolve_right (by rintro ⟨_, h9⟩; cases h9)
                refine lv_aload_n hx hb dX5_readStatement_95 rfl (lv_at hl 0 rfl) ?_
                refine cv_v (As := []) (rest := []) (b := w) ⟨hx, hb, hml, hown, hts⟩ (c_X5_step hT (w := w) hw) (cwV 0 hts gX5_readStatement_X5_step rfl rfl rfl hdX5_step_v ⟨Nat.le_of_ble_eq_true rfl, Nat.le_of_ble_eq_true rfl⟩) hN hE hL (rcv6 hN hT hw.1) rfl rfl hl.1 (Nat.le_of_ble_eq_true rfl) dX5_readStatement_96 (Nat.zero_le _) (Nat.zero_le _) (fun H1 locs hL hqr5500 => ?_)
                obtain ⟨hT1, hF1, hqr5500⟩ := hqr5500
                have hP : va_P D vwCl [((κ w).2.2.2, .inr (6, [.int (nI f5494_0), .int f5494_1, .int f5494_2, .null, .ref f5494_4, .ref f5494_5, .ref f5494_6, .ref f5494_7]))] _ := hF1.hP (hP.sub [0] rfl) (fa_c ⟨by rw [hsu.1]; decide, by rw [hsu.2]; first | decide | (simp; done) | (simp [h15a, h15b, h15c]; done) | (simp; omega)⟩ fa_n)
                have hF := hF.tr (hF1.mono (by simp))
                have hT := hT1
                have f5501 := hqr5500
                refine lv_aload_n hx hb dX5_readStatement_99 rfl (lv_at hl 0 rfl) ?_
                refine lv_iconst (v := 0) hx hb dX5_readStatement_100 (by decide) ?_
                refine cv_i (As := [.int 0]) (rest := []) (b := w) ⟨hx, hb, hml, hown, hts⟩ (c_X5_readSum_d0 hT (w := w) hw) (cwV 1 hts gX5_readStatement_X5_readSum rfl rfl rfl hdX5_readSum_v ⟨Nat.le_of_ble_eq_true rfl, Nat.le_of_ble_eq_true rfl⟩) hN hE hL (rcv6 hN hT hw.1) rfl rfl hl.1 (Nat.le_of_ble_eq_true rfl) dX5_readStatement_101 (Nat.zero_le _) (Nat.zero_le _) (fun r5502 H1 locs hL hqr5502 => ?_)
                obtain ⟨hT1, hF1, hqr5502⟩ := hqr5502
                have hP : va_P D vwCl [((κ w).2.2.2, .inr (6, [.int (nI f5494_0), .int f5494_1, .int f5494_2, .null, .ref f5494_4, .ref f5494_5, .ref f5494_6, .ref f5494_7]))] _ := hF1.hP (hP.sub [0] rfl) (fa_c ⟨by rw [hsu.1]; decide, by rw [hsu.2]; first | decide | (simp; done) | (simp [h15a, h15b, h15c]; done) | (simp; omega)⟩ fa_n)
                have hF := hF.tr (hF1.mono (by simp))
                have hT := hT1
                rcases hqr5502 with rfl | rfl
                · refine lv_if_ne (tgt := 109) hx hb dX5_readStatement_104 (by decide) (fun c9 => absurd (by decide) c9) (fun _ => ?_)
                  refine lv_iconst (v := 0) hx hb dX5_readStatement_107 (by decide) ?_
                  refine W.know (fun hg => ?_)
                  rw [hH0] at hg
                  exact en_i hx hb hr hlocks hL rfl (Nat.zero_le _) (Nat.zero_le _) dX5_readStatement_108 (⟨_, (fun _ _ _ => rfl), hT, hF, hsu, Or.inl ⟨rfl, hg⟩, Or.inl rfl⟩)
                · refine lv_if_ne (tgt := 109) hx hb dX5_readStatement_104 (by decide) (fun _ => ?_) (fun c9 => absurd c9 (by decide))
                  refine lv_aload_n hx hb dX5_readStatement_109 rfl (lv_at hl 0 rfl) ?_
                  obtain ⟨hb5503, e5503, hat5503, hk5503⟩ := hT.o6 hw.1
                  obtain ⟨f5503_0, f5503_2, f5503_3, f5503_4, f5503_5, f5503_6, f5503_7, f5503_8, f5503_9, f5503_10, f5503_11, f5503_12, f5503_13, rfl, c5503_1, c5503_2, c5503_3, c5503_5, c5503_10, t5503_0, t5503_9, c5503_11, c5503_p2⟩ := hk5503
                  obtain rfl : f5503_11 = .ref (κ w).2.2.2 := c5503_p2.resolve_left hs0
                  have hP : va_P D vwCl [(w, .inr (5, [.ref f5503_0, .int (nI ((κ w).2.2.1)), .int (nI f5503_2), .int (nI f5503_3), .int f5503_4, .int (nI f5503_5), .int f5503_6, .int f5503_7, .int f5503_8, .ref f5503_9, .int (nI f5503_10), .ref (κ w).2.2.2, .int f5503_12, .int f5503_13])), ((κ w).2.2.2, .inr (6, [.int (nI f5494_0), .int f5494_1, .int f5494_2, .null, .ref f5494_4, .ref f5494_5, .ref f5494_6, .ref f5494_7]))] _ := va_P.cons hat5503 hP
                  refine va_get (D := D) (ci := 5) (v := .ref (κ w).2.2.2) (C := RX5) (T := TX5) (N := 14) hx hb hts iX5_readStatement_5 hown hN.1 hP 0 rfl rfl 11 (by decide) (hts _ mX5_readStatement_1) (fun _ h9 => h9) rfl dX5_readStatement_110 ?_
                  have hb0 : B0 ≤ _ := hT.b0 hw (by decide)
                  have hB : Bx B0 D _ [(w, .inr (5, [.ref f5503_0, .int (nI ((κ w).2.2.1)), .int (nI f5503_2), .int (nI f5503_3), .int f5503_4, .int (nI f5503_5), .int f5503_6, .int f5503_7, .int f5503_8, .ref f5503_9, .int (nI f5503_10), .ref (κ w).2.2.2, .int f5503_12, .int f5503_13])), ((κ w).2.2.2, .inr (6, [.int (nI f5494_0), .int f5494_1, .int f5494_2, .null, .ref f5494_4, .ref f5494_5, .ref f5494_6, .ref f5494_7]))] [] _ _ := Bx.of (fun a => (κ a).1) hL hP (fa_c hb5503 (fa_c hb5494 fa_n)) (by simp only [List.map_cons, List.map_nil, hw.1, hsu.1]; decide)
                  refine nw_o (ci := 0) (fs := [.null, .null]) (C := RX0) (T := TX0) (N := 2) hx hb hts iX5_readStatement_0 tyX0 tyX0_ok hown (hts _ mX5_readStatement_2) (hts _ mX5_readStatement_3) (hts _ mX5_readStatement_4) hN rfl dfl0 (show 0 + 1 ≤ 3 by omega) (show 0 + 2 ≤ 618 by omega) dX5_readStatement_113 (fun q5504 H heq5504 hzq5504 hoq5504 hatq5504 => ?_)
                  have hgeq5504 : _ ≤ q5504 := Nat.le_trans hB.2.2.1 (Nat.le_of_eq heq5504.symm)
                  have hbq5504 : B0 ≤ q5504 := Nat.le_trans hb0 hgeq5504
                  have hfq5504 : (κ q5504).1 = 0 := hT.fresh hgeq5504
                  have hB := hB.nw heq5504 hzq5504 hoq5504 hatq5504 hb0
                  have hB : Bx B0 D _ [(w, .inr (5, [.ref f5503_0, .int (nI ((κ w).2.2.1)), .int (nI f5503_2), .int (nI f5503_3), .int f5503_4, .int (nI f5503_5), .int f5503_6, .int f5503_7, .int f5503_8, .ref f5503_9, .int (nI f5503_10), .ref (κ w).2.2.2, .int f5503_12, .int f5503_13])), ((κ w).2.2.2, .inr (6, [.int (nI f5494_0), .int f5494_1, .int f5494_2, .null, .ref f5494_4, .ref f5494_5, .ref f5494_6, .ref f5494_7])), (q5504, .inr (0, [.null, .null]))] [] _ _ := hB
                  refine lv_dup hx hb dX5_readStatement_116 rfl ?_
                  refine lv_aload_n hx hb dX5_readStatement_117 rfl (lv_at hl 0 rfl) ?_
                  refine va_get (D := D) (ci := 5) (v := .ref f5503_9) (C := RX5) (T := TX5) (N := 14) hx hb hts iX5_readStatement_5 hown hN.1 hB.1 0 rfl rfl 9 (by decide) (hts _ mX5_readStatement_5) (fun _ h9 => h9) rfl dX5_readStatement_118 ?_
                  refine lv_aload_n hx hb dX5_readStatement_121 rfl (lv_at hl 0 rfl) ?_
                  refine va_get (D := D) (ci := 5) (v := .int (nI f5503_10)) (C := RX5) (T := TX5) (N := 14) hx hb hts iX5_readStatement_5 hown hN.1 hB.1 0 rfl rfl 10 (by decide) (hts _ mX5_readStatement_6) (fun _ h9 => h9) rfl dX5_readStatement_122 ?_
                  have hT : WT B0 D cs T κ _ := hT.close hB trivial
                  have hF : Fr B0 [10, 11] κ H0 _ := hF.close hB fa_n
                  have hL : OkL B0 _ := hB.2.2.2.2.2
                  have hP : va_P D vwCl [(w, .inr (5, [.ref f5503_0, .int (nI ((κ w).2.2.1)), .int (nI f5503_2), .int (nI f5503_3), .int f5503_4, .int (nI f5503_5), .int f5503_6, .int f5503_7, .int f5503_8, .ref f5503_9, .int (nI f5503_10), .ref (κ w).2.2.2, .int f5503_12, .int f5503_13])), ((κ w).2.2.2, .inr (6, [.int (nI f5494_0), .int f5494_1, .int f5494_2, .null, .ref f5494_4, .ref f5494_5, .ref f5494_6, .ref f5494_7])), (q5504, .inr (0, [.null, .null]))] _ := hB.1
                  refine ci_v (As := [.ref f5503_9, .int (nI f5503_10)]) (rest := [.ref q5504, .ref (κ w).2.2.2]) (b := q5504) ⟨hx, hb, hml, hown, hts⟩ (c_X0_init hT (w := q5504) hfq5504 hbq5504 (hP 2 _ rfl) (v := f5503_9) t5503_9 (n := f5503_10) (by first | omega | decide | assumption)) (cwI 2 hts gX5_readStatement_X0_init rfl rfl rfl (hts _ mX5_readStatement_4) (hts _ mX5_readStatement_156) (hts _ mX5_readStatement_157) rfl hdX0_init_o ⟨Nat.le_of_ble_eq_true rfl, Nat.le_of_ble_eq_true rfl⟩) hN hE hL rfl rfl hl.1 (Nat.le_of_ble_eq_true rfl) dX5_readStatement_125 (show 1 + 2 ≤ 3 by omega) (show (0 + 2) + 616 ≤ 618 by omega) (fun H1 locs hL hqr5505 => ?_)
                  obtain ⟨κr5505, hxr5505, hT1, hF1, hqr5505⟩ := hqr5505
                  have hF := hF.tr (hF1.mono (by simp))
                  have hT := hT1
                  have hKF : KF κ κr5505 := hxr5505.f
                  have hKX : KX κ κr5505 := hxr5505
                  have hw := (hxr5505.f.t2 hw (by decide))
                  have hsu := (hxr5505.f.t2 hsu (by decide))
                  have hq5504 := hqr5505
                  obtain ⟨hb5506, e5506, hat5506, hk5506⟩ := hT.o7 hsu.1
                  obtain ⟨f5506_0, f5506_1, f5506_2, f5506_3, f5506_4, f5506_5, f5506_6, f5506_7, rfl, c5506_0, c5506_3, c5506_mg, t5506_4, t5506_5, t5506_6, t5506_7⟩ := hk5506
                  rw [hsu.2] at t5506_4
                  rw [hsu.2] at t5506_5
                  rw [hsu.2] at t5506_6
                  rw [hsu.2] at t5506_7
                  have hP : va_P D vwCl [((κ w).2.2.2, .inr (6, [.int (nI f5506_0), .int f5506_1, .int f5506_2, f5506_3, .ref f5506_4, .ref f5506_5, .ref f5506_6, .ref f5506_7]))] _ := va_P.cons hat5506 va_P.nil
                  have hB : Bx B0 D _ [((κ w).2.2.2, .inr (6, [.int (nI f5506_0), .int f5506_1, .int f5506_2, f5506_3, .ref f5506_4, .ref f5506_5, .ref f5506_6, .ref f5506_7]))] [] _ _ := Bx.of (fun a => (κr5505 a).1) hL hP (fa_c hb5506 fa_n) (by simp only [List.map_cons, List.map_nil, hsu.1]; decide)
                  refine b_putN (D := D) (ci := 6) (v := .ref q5504) (ty := .object "OneBeat$Formula") (C := RX6) (T := TX6) (N := 8) hx hb hts iX5_readStatement_6 tyX6 tyX6_ok nmX6 hown hN hB 0 rfl rfl 3 (by decide) (hN.f 44 rfl) (fun _ h9 => h9) rfl (by decide +kernel) rfl rfl (Nat.le_of_ble_eq_true rfl) (.inl rfl) dX5_readStatement_128 (fun H locs hB => ?_)
                  have hB : Bx B0 D _ [((κ w).2.2.2, .inr (6, [.int (nI f5506_0), .int f5506_1, .int f5506_2, .ref q5504, .ref f5506_4, .ref f5506_5, .ref f5506_6, .ref f5506_7]))] [(κ w).2.2.2] _ _ := hB
                  refine lv_iconst (v := 1) hx hb dX5_readStatement_131 (by decide) ?_
                  have hF : Fr B0 [10, 11] κ H0 _ := hF.closeN hB (fa_c (fun h9 => by rw [← (hKF _ h9).2, hsu.2]; simp) fa_n)
                  have hT : WT B0 D cs T (kp κr5505 (κ w).2.2.2 1 0) _ := hT.closeK (κ w).2.2.2 1 0 hB (by rw [hsu.1]; decide) (by rw [hsu.1]; decide) (List.mem_of_getElem? (i := 0) rfl) ⟨⟨0, _, rfl, kp_ok (ok_7 (k := ((κr5505 (κ w).2.2.2).1, (κr5505 (κ w).2.2.2).2.1, _, _)) hsu.1 ⟨_, _, _, _, _, _, _, _, rfl, (by omega), (Or.inr ⟨_, rfl, (t2kp hq5504)⟩), (Or.inr ⟨_, rfl⟩), ⟨(t2kp t5506_4).1, by rw [hsu.2]; exact (t2kp t5506_4).2⟩, ⟨(t2kp t5506_5).1, by rw [hsu.2]; exact (t2kp t5506_5).2⟩, ⟨(t2kp t5506_6).1, by rw [hsu.2]; exact (t2kp t5506_6).2⟩, ⟨(t2kp t5506_7).1, by rw [hsu.2]; exact (t2kp t5506_7).2⟩⟩)⟩, trivial⟩
                  have hL : OkL B0 _ := hB.2.2.2.2.2
                  have hsu := t2kp (x := 1) (y := 0) (a := (κ w).2.2.2) hsu
                  refine W.know (fun hg => ?_)
                  rw [hH0] at hg
                  exact en_i hx hb hr hlocks hL rfl (show 3 ≤ 3 by omega) (show ((0 + 2) + 616) ≤ 618 by omega) dX5_readStatement_132 (⟨_, (fun a h1 h2 => (kp_n h2).trans (hKX a h1)), hT, hF, hsu, Or.inr ⟨hmg1, by rw [kp_a], hg.mono (by omega) (by omega)⟩, Or.inr rfl⟩)
              · refine va_getN (D := D) (ci := 6) (v := .ref a5499) (C := RX6) (T := TX6) (N := 8) hx hb hts iX5_readStatement_6 hown hN.1 hP 0 rfl rfl 3 (by decide) (hN.f 44 rfl) (fun _ h9 => h9) rfl dX5_readStatement_89 ?_
                refine lv_ifnonnull (tgt := 133) hx hb dX5_readStatement_92 (by decide) ?_
                refine lv_aload_n hx hb dX5_readStatement_133 rfl (lv_at hl 0 rfl) ?_
                refine lv_bipush (v := (-2)) hx hb dX5_readStatement_134 (by decide) ?_
                refine lv_aload_n hx hb dX5_readStatement_136 rfl (lv_at hl 0 rfl) ?_
                refine va_get (D := D) (ci := 5) (v := .int (nI f5493_5)) (C := RX5) (T := TX5) (N := 14) hx hb hts iX5_readStatement_5 hown hN.1 hP 1 rfl rfl 5 (by decide) (hts _ mX5_readStatement_7) (fun _ h9 => h9) rfl dX5_readStatement_137 ?_
                refine cv_i (As := [.int (-2), .int (nI f5493_5)]) (rest := []) (b := w) ⟨hx, hb, hml, hown, hts⟩ (c_X5_fail hT (w := w) hw (x := (-2)) (y := (nI f5493_5))) (cwV 2 hts gX5_readStatement_X5_fail rfl rfl rfl hdX5_fail_v ⟨Nat.le_of_ble_eq_true rfl, Nat.le_of_ble_eq_true rfl⟩) hN hE hL (rcv6 hN hT hw.1) rfl rfl hl.1 (Nat.le_of_ble_eq_true rfl) dX5_readStatement_140 (Nat.zero_le _) (Nat.zero_le _) (fun r5507 H1 locs hL hqr5507 => ?_)
                obtain ⟨hT1, hF1, hqr5507⟩ := hqr5507
                have hP : va_P D vwCl [((κ w).2.2.2, .inr (6, [.int (nI f5494_0), .int f5494_1, .int f5494_2, .ref a5499, .ref f5494_4, .ref f5494_5, .ref f5494_6, .ref f5494_7]))] _ := hF1.hP (hP.sub [0] rfl) (fa_c ⟨by rw [hsu.1]; decide, by rw [hsu.2]; first | decide | (simp; done) | (simp [h15a, h15b, h15c]; done) | (simp; omega)⟩ fa_n)
                have hF := hF.tr (hF1.mono (by simp))
                have hT := hT1
                obtain rfl := hqr5507
                refine W.know (fun hg => ?_)
                rw [hH0] at hg
                exact en_i hx hb hr hlocks hL rfl (Nat.zero_le _) (Nat.zero_le _) dX5_readStatement_143 (⟨_, (fun _ _ _ => rfl), hT, hF, hsu, Or.inl ⟨rfl, hg⟩, Or.inl rfl⟩)
          · refine lv_if_eq (tgt := 76) hx hb dX5_readStatement_58 (by decide) (fun c9 => absurd c9 (by decide)) (fun _ => ?_)
            refine lv_aload_n hx hb dX5_readStatement_61 rfl (lv_at hl 0 rfl) ?_
            refine va_get (D := D) (ci := 5) (v := .ref (κ w).2.2.2) (C := RX5) (T := TX5) (N := 14) hx hb hts iX5_readStatement_5 hown hN.1 hP 1 rfl rfl 11 (by decide) (hts _ mX5_readStatement_1) (fun _ h9 => h9) rfl dX5_readStatement_62 ?_
            refine va_getN (D := D) (ci := 6) (v := .int f5494_2) (C := RX6) (T := TX6) (N := 8) hx hb hts iX5_readStatement_6 hown hN.1 hP 0 rfl rfl 2 (by decide) (hN.f 42 rfl) (fun _ h9 => h9) rfl dX5_readStatement_65 ?_
            refine lv_if_ne (tgt := 76) hx hb dX5_readStatement_68 (by decide) (fun c5508 => ?_) (fun c5508 => ?_)
            · refine lv_aload_n hx hb dX5_readStatement_76 rfl (lv_at hl 0 rfl) ?_
              refine va_ldcS hx hb hown (hN.s 6 rfl) dX5_readStatement_77 ?_
              refine cv_i (As := [.ref (cs 106)]) (rest := []) (b := w) ⟨hx, hb, hml, hown, hts⟩ (c_X5_isWord hT (w := w) hw (i := 6) (by decide)) (cwV 1 hts gX5_readStatement_X5_isWord rfl rfl rfl hdX5_isWord_v ⟨Nat.le_of_ble_eq_true rfl, Nat.le_of_ble_eq_true rfl⟩) hN hE hL (rcv6 hN hT hw.1) rfl rfl hl.1 (Nat.le_of_ble_eq_true rfl) dX5_readStatement_79 (Nat.zero_le _) (Nat.zero_le _) (fun r5509 H1 locs hL hqr5509 => ?_)
              obtain ⟨h9, hqr5509⟩ := hqr5509; replace h9 := h9.symm; subst h9
              rcases hqr5509 with rfl | rfl
              · refine lv_if_eq (tgt := 133) hx hb dX5_readStatement_82 (by decide) (fun _ => ?_) (fun c9 => absurd (by decide) c9)
                refine lv_aload_n hx hb dX5_readStatement_133 rfl (lv_at hl 0 rfl) ?_
                refine lv_bipush (v := (-2)) hx hb dX5_readStatement_134 (by decide) ?_
                refine lv_aload_n hx hb dX5_readStatement_136 rfl (lv_at hl 0 rfl) ?_
                refine va_get (D := D) (ci := 5) (v := .int (nI f5493_5)) (C := RX5) (T := TX5) (N := 14) hx hb hts iX5_readStatement_5 hown hN.1 hP 1 rfl rfl 5 (by decide) (hts _ mX5_readStatement_7) (fun _ h9 => h9) rfl dX5_readStatement_137 ?_
                refine cv_i (As := [.int (-2), .int (nI f5493_5)]) (rest := []) (b := w) ⟨hx, hb, hml, hown, hts⟩ (c_X5_fail hT (w := w) hw (x := (-2)) (y := (nI f5493_5))) (cwV 2 hts gX5_readStatement_X5_fail rfl rfl rfl hdX5_fail_v ⟨Nat.le_of_ble_eq_true rfl, Nat.le_of_ble_eq_true rfl⟩) hN hE hL (rcv6 hN hT hw.1) rfl rfl hl.1 (Nat.le_of_ble_eq_true rfl) dX5_readStatement_140 (Nat.zero_le _) (Nat.zero_le _) (fun r5510 H1 locs hL hqr5510 => ?_)
                obtain ⟨hT1, hF1, hqr5510⟩ := hqr5510
                have hP : va_P D vwCl [((κ w).2.2.2, .inr (6, [.int (nI f5494_0), .int f5494_1, .int f5494_2, f5494_3, .ref f5494_4, .ref f5494_5, .ref f5494_6, .ref f5494_7]))] _ := hF1.hP (hP.sub [0] rfl) (fa_c ⟨by rw [hsu.1]; decide, by rw [hsu.2]; first | decide | (simp; done) | (simp [h15a, h15b, h15c]; done) | (simp; omega)⟩ fa_n)
                have hF := hF.tr (hF1.mono (by simp))
                have hT := hT1
                obtain rfl := hqr5510
                refine W.know (fun hg => ?_)
                rw [hH0] at hg
                exact en_i hx hb hr hlocks hL rfl (Nat.zero_le _) (Nat.zero_le _) dX5_readStatement_143 (⟨_, (fun _ _ _ => rfl), hT, hF, hsu, Or.inl ⟨rfl, hg⟩, Or.inl rfl⟩)
              · refine lv_if_eq (tgt := 133) hx hb dX5_readStatement_82 (by decide) (fun c9 => absurd c9 (by decide)) (fun _ => ?_)
                refine lv_aload_n hx hb dX5_readStatement_85 rfl (lv_at hl 0 rfl) ?_
                refine va_get (D := D) (ci := 5) (v := .ref (κ w).2.2.2) (C := RX5) (T := TX5) (N := 14) hx hb hts iX5_readStatement_5 hown hN.1 hP 1 rfl rfl 11 (by decide) (hts _ mX5_readStatement_1) (fun _ h9 => h9) rfl dX5_readStatement_86 ?_
                rcases c5494_3 with rfl | ⟨a5511, rfl, ta5511⟩
                · refine va_getN (D := D) (ci := 6) (v := .null) (C := RX6) (T := TX6) (N := 8) hx hb hts iX5_readStatement_6 hown hN.1 hP 0 rfl rfl 3 (by decide) (hN.f 44 rfl) (fun _ h9 => h9) rfl dX5_readStatement_89 ?_
                  refine lv_ifnonnullN hx hb dX5_readStatement_92 ?_
                  have hmg1 : (κ (κ w).2.2.2).2.2.1 ≠ 1 := (c5494_mg).resolve_right (by rintro ⟨_, h9⟩; cases h9)
                  refine lv_aload_n hx hb dX5_readStatement_95 rfl (lv_at hl 0 rfl) ?_
                  refine cv_v (As := []) (rest := []) (b := w) ⟨hx, hb, hml, hown, hts⟩ (c_X5_step hT (w := w) hw) (cwV 0 hts gX5_readStatement_X5_step rfl rfl rfl hdX5_step_v ⟨Nat.le_of_ble_eq_true rfl, Nat.le_of_ble_eq_true rfl⟩) hN hE hL (rcv6 hN hT hw.1) rfl rfl hl.1 (Nat.le_of_ble_eq_true rfl) dX5_readStatement_96 (Nat.zero_le _) (Nat.zero_le _) (fun H1 locs hL hqr5512 => ?_)
                  obtain ⟨hT1, hF1, hqr5512⟩ := hqr5512
                  have hP : va_P D vwCl [((κ w).2.2.2, .inr (6, [.int (nI f5494_0), .int f5494_1, .int f5494_2, .null, .ref f5494_4, .ref f5494_5, .ref f5494_6, .ref f5494_7]))] _ := hF1.hP (hP.sub [0] rfl) (fa_c ⟨by rw [hsu.1]; decide, by rw [hsu.2]; first | decide | (simp; done) | (simp [h15a, h15b, h15c]; done) | (simp; omega)⟩ fa_n)
                  have hF := hF.tr (hF1.mono (by simp))
                  have hT := hT1
                  have f5513 := hqr5512
                  refine lv_aload_n hx hb dX5_readStatement_99 rfl (lv_at hl 0 rfl) ?_
                  refine lv_iconst (v := 0) hx hb dX5_readStatement_100 (by decide) ?_
                  refine cv_i (As := [.int 0]) (rest := []) (b := w) ⟨hx, hb, hml, hown, hts⟩ (c_X5_readSum_d0 hT (w := w) hw) (cwV 1 hts gX5_readStatement_X5_readSum rfl rfl rfl hdX5_readSum_v ⟨Nat.le_of_ble_eq_true rfl, Nat.le_of_ble_eq_true rfl⟩) hN hE hL (rcv6 hN hT hw.1) rfl rfl hl.1 (Nat.le_of_ble_eq_true rfl) dX5_readStatement_101 (Nat.zero_le _) (Nat.zero_le _) (fun r5514 H1 locs hL hqr5514 => ?_)
                  obtain ⟨hT1, hF1, hqr5514⟩ := hqr5514
                  have hP : va_P D vwCl [((κ w).2.2.2, .inr (6, [.int (nI f5494_0), .int f5494_1, .int f5494_2, .null, .ref f5494_4, .ref f5494_5, .ref f5494_6, .ref f5494_7]))] _ := hF1.hP (hP.sub [0] rfl) (fa_c ⟨by rw [hsu.1]; decide, by rw [hsu.2]; first | decide | (simp; done) | (simp [h15a, h15b, h15c]; done) | (simp; omega)⟩ fa_n)
                  have hF := hF.tr (hF1.mono (by simp))
                  have hT := hT1
                  rcases hqr5514 with rfl | rfl
                  · refine lv_if_ne (tgt := 109) hx hb dX5_readStatement_104 (by decide) (fun c9 => absurd (by decide) c9) (fun _ => ?_)
                    refine lv_iconst (v := 0) hx hb dX5_readStatement_107 (by decide) ?_
                    refine W.know (fun hg => ?_)
                    rw [hH0] at hg
                    exact en_i hx hb hr hlocks hL rfl (Nat.zero_le _) (Nat.zero_le _) dX5_readStatement_108 (⟨_, (fun _ _ _ => rfl), hT, hF, hsu, Or.inl ⟨rfl, hg⟩, Or.inl rfl⟩)
                  · refine lv_if_ne (tgt := 109) hx hb dX5_readStatement_104 (by decide) (fun _ => ?_) (fun c9 => absurd c9 (by decide))
                    refine lv_aload_n hx hb dX5_readStatement_109 rfl (lv_at hl 0 rfl) ?_
                    obtain ⟨hb5515, e5515, hat5515, hk5515⟩ := hT.o6 hw.1
                    obtain ⟨f5515_0, f5515_2, f5515_3, f5515_4, f5515_5, f5515_6, f5515_7, f5515_8, f5515_9, f5515_10, f5515_11, f5515_12, f5515_13, rfl, c5515_1, c5515_2, c5515_3, c5515_5, c5515_10, t5515_0, t5515_9, c5515_11, c5515_p2⟩ := hk5515
                    obtain rfl : f5515_11 = .ref (κ w).2.2.2 := c5515_p2.resolve_left hs0
                    have hP : va_P D vwCl [(w, .inr (5, [.ref f5515_0, .int (nI ((κ w).2.2.1)), .int (nI f5515_2), .int (nI f5515_3), .int f5515_4, .int (nI f5515_5), .int f5515_6, .int f5515_7, .int f5515_8, .ref f5515_9, .int (nI f5515_10), .ref (κ w).2.2.2, .int f5515_12, .int f5515_13])), ((κ w).2.2.2, .inr (6, [.int (nI f5494_0), .int f5494_1, .int f5494_2, .null, .ref f5494_4, .ref f5494_5, .ref f5494_6, .ref f5494_7]))] _ := va_P.cons hat5515 hP
                    refine va_get (D := D) (ci := 5) (v := .ref (κ w).2.2.2) (C := RX5) (T := TX5) (N := 14) hx hb hts iX5_readStatement_5 hown hN.1 hP 0 rfl rfl 11 (by decide) (hts _ mX5_readStatement_1) (fun _ h9 => h9) rfl dX5_readStatement_110 ?_
                    have hb0 : B0 ≤ _ := hT.b0 hw (by decide)
                    have hB : Bx B0 D _ [(w, .inr (5, [.ref f5515_0, .int (nI ((κ w).2.2.1)), .int (nI f5515_2), .int (nI f5515_3), .int f5515_4, .int (nI f5515_5), .int f5515_6, .int f5515_7, .int f5515_8, .ref f5515_9, .int (nI f5515_10), .ref (κ w).2.2.2, .int f5515_12, .int f5515_13])), ((κ w).2.2.2, .inr (6, [.int (nI f5494_0), .int f5494_1, .int f5494_2, .null, .ref f5494_4, .ref f5494_5, .ref f5494_6, .ref f5494_7]))] [] _ _ := Bx.of (fun a => (κ a).1) hL hP (fa_c hb5515 (fa_c hb5494 fa_n)) (by simp only [List.map_cons, List.map_nil, hw.1, hsu.1]; decide)
                    refine nw_o (ci := 0) (fs := [.null, .null]) (C := RX0) (T := TX0) (N := 2) hx hb hts iX5_readStatement_0 tyX0 tyX0_ok hown (hts _ mX5_readStatement_2) (hts _ mX5_readStatement_3) (hts _ mX5_readStatement_4) hN rfl dfl0 (show 0 + 1 ≤ 3 by omega) (show 0 + 2 ≤ 618 by omega) dX5_readStatement_113 (fun q5516 H heq5516 hzq5516 hoq5516 hatq5516 => ?_)
                    have hgeq5516 : _ ≤ q5516 := Nat.le_trans hB.2.2.1 (Nat.le_of_eq heq5516.symm)
                    have hbq5516 : B0 ≤ q5516 := Nat.le_trans hb0 hgeq5516
                    have hfq5516 : (κ q5516).1 = 0 := hT.fresh hgeq5516
                    have hB := hB.nw heq5516 hzq5516 hoq5516 hatq5516 hb0
                    have hB : Bx B0 D _ [(w, .inr (5, [.ref f5515_0, .int (nI ((κ w).2.2.1)), .int (nI f5515_2), .int (nI f5515_3), .int f5515_4, .int (nI f5515_5), .int f5515_6, .int f5515_7, .int f5515_8, .ref f5515_9, .int (nI f5515_10), .ref (κ w).2.2.2, .int f5515_12, .int f5515_13])), ((κ w).2.2.2, .inr (6, [.int (nI f5494_0), .int f5494_1, .int f5494_2, .null, .ref f5494_4, .ref f5494_5, .ref f5494_6, .ref f5494_7])), (q5516, .inr (0, [.null, .null]))] [] _ _ := hB
                    refine lv_dup hx hb dX5_readStatement_116 rfl ?_
                    refine lv_aload_n hx hb dX5_readStatement_117 rfl (lv_at hl 0 rfl) ?_
                    refine va_get (D := D) (ci := 5) (v := .ref f5515_9) (C := RX5) (T := TX5) (N := 14) hx hb hts iX5_readStatement_5 hown hN.1 hB.1 0 rfl rfl 9 (by decide) (hts _ mX5_readStatement_5) (fun _ h9 => h9) rfl dX5_readStatement_118 ?_
                    refine lv_aload_n hx hb dX5_readStatement_121 rfl (lv_at hl 0 rfl) ?_
                    refine va_get (D := D) (ci := 5) (v := .int (nI f5515_10)) (C := RX5) (T := TX5) (N := 14) hx hb hts iX5_readStatement_5 hown hN.1 hB.1 0 rfl rfl 10 (by decide) (hts _ mX5_readStatement_6) (fun _ h9 => h9) rfl dX5_readStatement_122 ?_
                    have hT : WT B0 D cs T κ _ := hT.close hB trivial
                    have hF : Fr B0 [10, 11] κ H0 _ := hF.close hB fa_n
                    have hL : OkL B0 _ := hB.2.2.2.2.2
                    have hP : va_P D vwCl [(w, .inr (5, [.ref f5515_0, .int (nI ((κ w).2.2.1)), .int (nI f5515_2), .int (nI f5515_3), .int f5515_4, .int (nI f5515_5), .int f5515_6, .int f5515_7, .int f5515_8, .ref f5515_9, .int (nI f5515_10), .ref (κ w).2.2.2, .int f5515_12, .int f5515_13])), ((κ w).2.2.2, .inr (6, [.int (nI f5494_0), .int f5494_1, .int f5494_2, .null, .ref f5494_4, .ref f5494_5, .ref f5494_6, .ref f5494_7])), (q5516, .inr (0, [.null, .null]))] _ := hB.1
                    refine ci_v (As := [.ref f5515_9, .int (nI f5515_10)]) (rest := [.ref q5516, .ref (κ w).2.2.2]) (b := q5516) ⟨hx, hb, hml, hown, hts⟩ (c_X0_init hT (w := q5516) hfq5516 hbq5516 (hP 2 _ rfl) (v := f5515_9) t5515_9 (n := f5515_10) (by first | omega | decide | assumption)) (cwI 2 hts gX5_readStatement_X0_init rfl rfl rfl (hts _ mX5_readStatement_4) (hts _ mX5_readStatement_156) (hts _ mX5_readStatement_157) rfl hdX0_init_o ⟨Nat.le_of_ble_eq_true rfl, Nat.le_of_ble_eq_true rfl⟩) hN hE hL rfl rfl hl.1 (Nat.le_of_ble_eq_true rfl) dX5_readStatement_125 (show 1 + 2 ≤ 3 by omega) (show (0 + 2) + 616 ≤ 618 by omega) (fun H1 locs hL hqr5517 => ?_)
                    obtain ⟨κr5517, hxr5517, hT1, hF1, hqr5517⟩ := hqr5517
                    have hF := hF.tr (hF1.mono (by simp))
                    have hT := hT1
                    have hKF : KF κ κr5517 := hxr5517.f
                    have hKX : KX κ κr5517 := hxr5517
                    have hw := (hxr5517.f.t2 hw (by decide))
                    have hsu := (hxr5517.f.t2 hsu (by decide))
                    have hq5516 := hqr5517
                    obtain ⟨hb5518, e5518, hat5518, hk5518⟩ := hT.o7 hsu.1
                    obtain ⟨f5518_0, f5518_1, f5518_2, f5518_3, f5518_4, f5518_5, f5518_6, f5518_7, rfl, c5518_0, c5518_3, c5518_mg, t5518_4, t5518_5, t5518_6, t5518_7⟩ := hk5518
                    rw [hsu.2] at t5518_4
                    rw [hsu.2] at t5518_5
                    rw [hsu.2] at t5518_6
                    rw [hsu.2] at t5518_7
                    have hP : va_P D vwCl [((κ w).2.2.2, .inr (6, [.int (nI f5518_0), .int f5518_1, .int f5518_2, f5518_3, .ref f5518_4, .ref f5518_5, .ref f5518_6, .ref f5518_7]))] _ := va_P.cons hat5518 va_P.nil
                    have hB : Bx B0 D _ [((κ w).2.2.2, .inr (6, [.int (nI f5518_0), .int f5518_1, .int f5518_2, f5518_3, .ref f5518_4, .ref f5518_5, .ref f5518_6, .ref f5518_7]))] [] _ _ := Bx.of (fun a => (κr5517 a).1) hL hP (fa_c hb5518 fa_n) (by simp only [List.map_cons, List.map_nil, hsu.1]; decide)
                    refine b_putN (D := D) (ci := 6) (v := .ref q5516) (ty := .object "OneBeat$Formula") (C := RX6) (T := TX6) (N := 8) hx hb hts iX5_readStatement_6 tyX6 tyX6_ok nmX6 hown hN hB 0 rfl rfl 3 (by decide) (hN.f 44 rfl) (fun _ h9 => h9) rfl (by decide +kernel) rfl rfl (Nat.le_of_ble_eq_true rfl) (.inl rfl) dX5_readStatement_128 (fun H locs hB => ?_)
                    have hB : Bx B0 D _ [((κ w).2.2.2, .inr (6, [.int (nI f5518_0), .int f5518_1, .int f5518_2, .ref q5516, .ref f5518_4, .ref f5518_5, .ref f5518_6, .ref f5518_7]))] [(κ w).2.2.2] _ _ := hB
                    refine lv_iconst (v := 1) hx hb dX5_readStatement_131 (by decide) ?_
                    have hF : Fr B0 [10, 11] κ H0 _ := hF.closeN hB (fa_c (fun h9 => by rw [← (hKF _ h9).2, hsu.2]; simp) fa_n)
                    have hT : WT B0 D cs T (kp κr5517 (κ w).2.2.2 1 0) _ := hT.closeK (κ w).2.2.2 1 0 hB (by rw [hsu.1]; decide) (by rw [hsu.1]; decide) (List.mem_of_getElem? (i := 0) rfl) ⟨⟨0, _, rfl, kp_ok (ok_7 (k := ((κr5517 (κ w).2.2.2).1, (κr5517 (κ w).2.2.2).2.1, _, _)) hsu.1 ⟨_, _, _, _, _, _, _, _, rfl, (by omega), (Or.inr ⟨_, rfl, (t2kp hq5516)⟩), (Or.inr ⟨_, rfl⟩), ⟨(t2kp t5518_4).1, by rw [hsu.2]; exact (t2kp t5518_4).2⟩, ⟨(t2kp t5518_5).1, by rw [hsu.2]; exact (t2kp t5518_5).2⟩, ⟨(t2kp t5518_6).1, by rw [hsu.2]; exact (t2kp t5518_6).2⟩, ⟨(t2kp t5518_7).1, by rw [hsu.2]; exact (t2kp t5518_7).2⟩⟩)⟩, trivial⟩
                    have hL : OkL B0 _ := hB.2.2.2.2.2
                    have hsu := t2kp (x := 1) (y := 0) (a := (κ w).2.2.2) hsu
                    refine W.know (fun hg => ?_)
                    rw [hH0] at hg
                    exact en_i hx hb hr hlocks hL rfl (show 3 ≤ 3 by omega) (show ((0 + 2) + 616) ≤ 618 by omega) dX5_readStatement_132 (⟨_, (fun a h1 h2 => (kp_n h2).trans (hKX a h1)), hT, hF, hsu, Or.inr ⟨hmg1, by rw [kp_a], hg.mono (by omega) (by omega)⟩, Or.inr rfl⟩)
                · refine va_getN (D := D) (ci := 6) (v := .ref a5511) (C := RX6) (T := TX6) (N := 8) hx hb hts iX5_readStatement_6 hown hN.1 hP 0 rfl rfl 3 (by decide) (hN.f 44 rfl) (fun _ h9 => h9) rfl dX5_readStatement_89 ?_
                  refine lv_ifnonnull (tgt := 133) hx hb dX5_readStatement_92 (by decide) ?_
                  refine lv_aload_n hx hb dX5_readStatement_133 rfl (lv_at hl 0 rfl) ?_
                  refine lv_bipush (v := (-2)) hx hb dX5_readStatement_134 (by decide) ?_
                  refine lv_aload_n hx hb dX5_readStatement_136 rfl (lv_at hl 0 rfl) ?_
                  refine va_get (D := D) (ci := 5) (v := .int (nI f5493_5)) (C := RX5) (T := TX5) (N := 14) hx hb hts iX5_readStatement_5 hown hN.1 hP 1 rfl rfl 5 (by decide) (hts _ mX5_readStatement_7) (fun _ h9 => h9) rfl dX5_readStatement_137 ?_
                  refine cv_i (As := [.int (-2), .int (nI f5493_5)]) (rest := []) (b := w) ⟨hx, hb, hml, hown, hts⟩ (c_X5_fail hT (w := w) hw (x := (-2)) (y := (nI f5493_5))) (cwV 2 hts gX5_readStatement_X5_fail rfl rfl rfl hdX5_fail_v ⟨Nat.le_of_ble_eq_true rfl, Nat.le_of_ble_eq_true rfl⟩) hN hE hL (rcv6 hN hT hw.1) rfl rfl hl.1 (Nat.le_of_ble_eq_true rfl) dX5_readStatement_140 (Nat.zero_le _) (Nat.zero_le _) (fun r5519 H1 locs hL hqr5519 => ?_)
                  obtain ⟨hT1, hF1, hqr5519⟩ := hqr5519
                  have hP : va_P D vwCl [((κ w).2.2.2, .inr (6, [.int (nI f5494_0), .int f5494_1, .int f5494_2, .ref a5511, .ref f5494_4, .ref f5494_5, .ref f5494_6, .ref f5494_7]))] _ := hF1.hP (hP.sub [0] rfl) (fa_c ⟨by rw [hsu.1]; decide, by rw [hsu.2]; first | decide | (simp; done) | (simp [h15a, h15b, h15c]; done) | (simp; omega)⟩ fa_n)
                  have hF := hF.tr (hF1.mono (by simp))
                  have hT := hT1
                  obtain rfl := hqr5519
                  refine W.know (fun hg => ?_)
                  rw [hH0] at hg
                  exact en_i hx hb hr hlocks hL rfl (Nat.zero_le _) (Nat.zero_le _) dX5_readStatement_143 (⟨_, (fun _ _ _ => rfl), hT, hF, hsu, Or.inl ⟨rfl, hg⟩, Or.inl rfl⟩)
            · refine lv_aload_n hx hb dX5_readStatement_71 rfl (lv_at hl 0 rfl) ?_
              refine cv_i (As := []) (rest := []) (b := w) ⟨hx, hb, hml, hown, hts⟩ (c_X5_readPatience hT (w := w) hw (by first | omega | decide | assumption) (by first | omega | decide | assumption)) (cwV 0 hts gX5_readStatement_X5_readPatience rfl rfl rfl hdX5_readPatience_v ⟨Nat.le_of_ble_eq_true rfl, Nat.le_of_ble_eq_true rfl⟩) hN hE hL (rcv6 hN hT hw.1) rfl rfl hl.1 (Nat.le_of_ble_eq_true rfl) dX5_readStatement_72 (Nat.zero_le _) (Nat.zero_le _) (fun r5520 H1 locs hL hqr5520 => ?_)
              obtain ⟨hT1, hF1, hqr5520⟩ := hqr5520
              have hF := hF.tr (hF1.mono (by simp))
              have hT := hT1
              rcases hqr5520 with rfl | rfl
              · refine W.know (fun hg => ?_)
                rw [hH0] at hg
                exact en_i hx hb hr hlocks hL rfl (Nat.zero_le _) (Nat.zero_le _) dX5_readStatement_75 (⟨_, (fun _ _ _ => rfl), hT, hF, hsu, Or.inl ⟨rfl, hg⟩, Or.inl rfl⟩)
              · refine W.know (fun hg => ?_)
                rw [hH0] at hg
                exact en_i hx hb hr hlocks hL rfl (Nat.zero_le _) (Nat.zero_le _) dX5_readStatement_75 (⟨_, (fun _ _ _ => rfl), hT, hF, hsu, Or.inl ⟨rfl, hg⟩, Or.inr rfl⟩)
        · refine lv_aload_n hx hb dX5_readStatement_47 rfl (lv_at hl 0 rfl) ?_
          refine cv_i (As := []) (rest := []) (b := w) ⟨hx, hb, hml, hown, hts⟩ (c_X5_readNeed hT (w := w) hw (by first | omega | decide | assumption) (by first | omega | decide | assumption)) (cwV 0 hts gX5_readStatement_X5_readNeed rfl rfl rfl hdX5_readNeed_v ⟨Nat.le_of_ble_eq_true rfl, Nat.le_of_ble_eq_true rfl⟩) hN hE hL (rcv6 hN hT hw.1) rfl rfl hl.1 (Nat.le_of_ble_eq_true rfl) dX5_readStatement_48 (Nat.zero_le _) (Nat.zero_le _) (fun r5521 H1 locs hL hqr5521 => ?_)
          obtain ⟨hT1, hF1, hqr5521⟩ := hqr5521
          have hF := hF.tr (hF1.mono (by simp))
          have hT := hT1
          rcases hqr5521 with rfl | rfl
          · refine W.know (fun hg => ?_)
            rw [hH0] at hg
            exact en_i hx hb hr hlocks hL rfl (Nat.zero_le _) (Nat.zero_le _) dX5_readStatement_51 (⟨_, (fun _ _ _ => rfl), hT, hF, hsu, Or.inl ⟨rfl, hg⟩, Or.inl rfl⟩)
          · refine W.know (fun hg => ?_)
            rw [hH0] at hg
            exact en_i hx hb hr hlocks hL rfl (Nat.zero_le _) (Nat.zero_le _) dX5_readStatement_51 (⟨_, (fun _ _ _ => rfl), hT, hF, hsu, Or.inl ⟨rfl, hg⟩, Or.inr rfl⟩)
    · refine lv_if_eq (tgt := 28) hx hb dX5_readStatement_20 (by decide) (fun c9 => absurd c9 (by decide)) (fun _ => ?_)
      refine lv_aload_n hx hb dX5_readStatement_23 rfl (lv_at hl 0 rfl) ?_
      refine cv_i (As := []) (rest := []) (b := w) ⟨hx, hb, hml, hown, hts⟩ (c_X5_readLink hT (w := w) hw (by first | omega | decide | assumption) (by first | omega | decide | assumption)) (cwV 0 hts gX5_readStatement_X5_readLink rfl rfl rfl hdX5_readLink_v ⟨Nat.le_of_ble_eq_true rfl, Nat.le_of_ble_eq_true rfl⟩) hN hE hL (rcv6 hN hT hw.1) rfl rfl hl.1 (Nat.le_of_ble_eq_true rfl) dX5_readStatement_24 (Nat.zero_le _) (Nat.zero_le _) (fun r5522 H1 locs hL hqr5522 => ?_)
      obtain ⟨hT1, hF1, hqr5522⟩ := hqr5522
      have hF := hF.tr (hF1.mono (by simp))
      have hT := hT1
      rcases hqr5522 with rfl | rfl
      · refine W.know (fun hg => ?_)
        rw [hH0] at hg
        exact en_i hx hb hr hlocks hL rfl (Nat.zero_le _) (Nat.zero_le _) dX5_readStatement_27 (⟨_, (fun _ _ _ => rfl), hT, hF, hsu, Or.inl ⟨rfl, hg⟩, Or.inl rfl⟩)
      · refine W.know (fun hg => ?_)
        rw [hH0] at hg
        exact en_i hx hb hr hlocks hL rfl (Nat.zero_le _) (Nat.zero_le _) dX5_readStatement_27 (⟨_, (fun _ _ _ => rfl), hT, hF, hsu, Or.inl ⟨rfl, hg⟩, Or.inr rfl⟩)
  · refine lv_if_eq (tgt := 14) hx hb dX5_readStatement_6 (by decide) (fun c9 => absurd c9 (by decide)) (fun _ => ?_)
    refine lv_aload_n hx hb dX5_readStatement_9 rfl (lv_at hl 0 rfl) ?_
    refine cv_i (As := []) (rest := []) (b := w) ⟨hx, hb, hml, hown, hts⟩ (c_X5_readClock hT (w := w) hw (by first | omega | decide | assumption) (by first | omega | decide | assumption)) (cwV 0 hts gX5_readStatement_X5_readClock rfl rfl rfl hdX5_readClock_v ⟨Nat.le_of_ble_eq_true rfl, Nat.le_of_ble_eq_true rfl⟩) hN hE hL (rcv6 hN hT hw.1) rfl rfl hl.1 (Nat.le_of_ble_eq_true rfl) dX5_readStatement_10 (Nat.zero_le _) (Nat.zero_le _) (fun r5523 H1 locs hL hqr5523 => ?_)
    obtain ⟨hT1, hF1, hqr5523⟩ := hqr5523
    have hF := hF.tr (hF1.mono (by simp))
    have hT := hT1
    rcases hqr5523 with rfl | rfl
    · refine W.know (fun hg => ?_)
      rw [hH0] at hg
      exact en_i hx hb hr hlocks hL rfl (Nat.zero_le _) (Nat.zero_le _) dX5_readStatement_13 (⟨_, (fun _ _ _ => rfl), hT, hF, hsu, Or.inl ⟨rfl, hg⟩, Or.inl rfl⟩)
    · refine W.know (fun hg => ?_)
      rw [hH0] at hg
      exact en_i hx hb hr hlocks hL rfl (Nat.zero_le _) (Nat.zero_le _) dX5_readStatement_13 (⟨_, (fun _ _ _ => rfl), hT, hF, hsu, Or.inl ⟨rfl, hg⟩, Or.inr rfl⟩)
theorem mX5_read_1 : (.fieldLink RX5 11 "OneBeat$Reader" "text" "[B" : Cond) ∈ wsX5_read := List.mem_of_getElem? (i := 1) (by decide +kernel)
theorem iX5_read_5 : ∀ w ∈ wsX50, w ∈ wsX5_read := fun w h => List.mem_of_mem_drop (List.mem_of_mem_take ((show wsX50 = (wsX5_read.drop 210).take 14 by decide +kernel) ▸ h))
theorem mX5_read_2 : (.methodLink RX5 23 Lib.Math.min.name : Cond) ∈ wsX5_read := List.mem_of_getElem? (i := 2) (by decide +kernel)
theorem mX5_read_3 : (.static Lib.Math.min.name : Cond) ∈ wsX5_read := List.mem_of_getElem? (i := 3) (by decide +kernel)
theorem mX5_read_4 : (.initialized "java/lang/Math" : Cond) ∈ wsX5_read := List.mem_of_getElem? (i := 4) (by decide +kernel)
theorem mX5_read_5 : (.code Lib.Math.min.name Lib.Math.min.code 2 (some .int) : Cond) ∈ wsX5_read := List.mem_of_getElem? (i := 5) (by decide +kernel)
theorem mX5_read_6 : (.methodLink RX5 29 Lib.Math.max.name : Cond) ∈ wsX5_read := List.mem_of_getElem? (i := 6) (by decide +kernel)
theorem mX5_read_7 : (.static Lib.Math.max.name : Cond) ∈ wsX5_read := List.mem_of_getElem? (i := 7) (by decide +kernel)
theorem mX5_read_8 : (.code Lib.Math.max.name Lib.Math.max.code 2 (some .int) : Cond) ∈ wsX5_read := List.mem_of_getElem? (i := 8) (by decide +kernel)
theorem mX5_read_9 : (.fieldLink RX5 32 "OneBeat$Reader" "length" "I" : Cond) ∈ wsX5_read := List.mem_of_getElem? (i := 9) (by decide +kernel)
theorem mX5_read_10 : (.fieldLink RX5 19 "OneBeat$Reader" "stored" "I" : Cond) ∈ wsX5_read := List.mem_of_getElem? (i := 10) (by decide +kernel)
theorem mX5_read_11 : (.fieldLink RX5 35 "OneBeat$Reader" "position" "I" : Cond) ∈ wsX5_read := List.mem_of_getElem? (i := 11) (by decide +kernel)
theorem mX5_read_12 : (.fieldLink RX5 38 "OneBeat$Reader" "codeCount" "I" : Cond) ∈ wsX5_read := List.mem_of_getElem? (i := 12) (by decide +kernel)
theorem mX5_read_13 : (.fieldLink RX5 41 "OneBeat$Reader" "errorStart" "I" : Cond) ∈ wsX5_read := List.mem_of_getElem? (i := 13) (by decide +kernel)
theorem hdX5_takeWord_v : yX5_takeWord.cls = RX5 ∧ yX5_takeWord.cls ≠ "java/lang/invoke/MethodHandle" ∧ yX5_takeWord.cls ≠ "java/lang/invoke/VarHandle" ∧ (parseMethodDescriptor yX5_takeWord.desc).map (fun d => d.parameters.length) = some 1 := by decide +kernel
theorem iX5_read_6 : ∀ w ∈ wsX60, w ∈ wsX5_read := fun w h => List.mem_of_mem_drop (List.mem_of_mem_take ((show wsX60 = (wsX5_read.drop 224).take 8 by decide +kernel) ▸ h))
theorem mX5_read_14 : (.classLink RX5 53 RX6 : Cond) ∈ wsX5_read := List.mem_of_getElem? (i := 14) (by decide +kernel)
theorem mX5_read_15 : (.instantiable RX6 8 : Cond) ∈ wsX5_read := List.mem_of_getElem? (i := 15) (by decide +kernel)
theorem mX5_read_16 : (.initialized RX6 : Cond) ∈ wsX5_read := List.mem_of_getElem? (i := 16) (by decide +kernel)
theorem dfl6 : ∀ j, j < 8 → defaultValue (tyX6 j) = vp_V [.int 0, .int 0, .int 0, .null, .null, .null, .null, .null] j := by decide +kernel
theorem mX5_read_17 : (.fieldLink RX5 59 "OneBeat$Reader" "taken" "I" : Cond) ∈ wsX5_read := List.mem_of_getElem? (i := 17) (by decide +kernel)
theorem mX5_read_96 : (.instanceMethod yX6_init : Cond) ∈ wsX5_read := List.mem_of_getElem? (i := 96) (by decide +kernel)
theorem mX5_read_95 : (.methodLink RX5 62 yX6_init : Cond) ∈ wsX5_read := List.mem_of_getElem? (i := 95) (by decide +kernel)
theorem hdX6_init_o : yX6_init.cls ≠ "java/lang/invoke/MethodHandle" ∧ yX6_init.cls ≠ "java/lang/invoke/VarHandle" ∧ (parseMethodDescriptor yX6_init.desc).map (fun d => d.parameters.length) = some 1 := by decide +kernel
theorem mX5_read_18 : (.fieldLink RX5 65 "OneBeat$Reader" "setup" "LOneBeat$Setup;" : Cond) ∈ wsX5_read := List.mem_of_getElem? (i := 18) (by decide +kernel)
theorem hdX6_fillIn_v : yX6_fillIn.cls = RX6 ∧ yX6_fillIn.cls ≠ "java/lang/invoke/MethodHandle" ∧ yX6_fillIn.cls ≠ "java/lang/invoke/VarHandle" ∧ (parseMethodDescriptor yX6_fillIn.desc).map (fun d => d.parameters.length) = some 0 := by decide +kernel
theorem mX5_read_19 : (.fieldLink RX5 73 "OneBeat$Reader" "kind" "I" : Cond) ∈ wsX5_read := List.mem_of_getElem? (i := 19) (by decide +kernel)
theorem hdX5_readStatement_v : yX5_readStatement.cls = RX5 ∧ yX5_readStatement.cls ≠ "java/lang/invoke/MethodHandle" ∧ yX5_readStatement.cls ≠ "java/lang/invoke/VarHandle" ∧ (parseMethodDescriptor yX5_readStatement.desc).map (fun d => d.parameters.length) = some 0 := by decide +kernel
set_option maxHeartbeats 4000000 in
set_option maxRecDepth 100000 in
theorem c_X5_read {l : Launch} {D : va_G} {cs : Nat → ClassId} {B0 T : Nat} {κ : KM} {H0 : Heap} (hT : WT B0 D cs T κ H0) {w : Nat} (hw : T2 κ w 6 10) {n : Nat} (hn : n ≤ 600) : KC l yX5_read wsX5_read 22 487 11 1332 D cs B0 H0 [.ref w, .int (nI n)] (Qn (fun r H => ∃ κ1, (∀ a, (κ a).1 ≠ 0 → a ≠ w → (κ a).2.1 ≠ 11 → κ1 a = κ a) ∧ (∀ a, (κ a).1 ≠ 0 → (κ1 a).1 = (κ a).1) ∧ T2 κ1 w 6 10 ∧ (κ1 w).2.2.1 = 0 ∧ WT B0 D cs T κ1 H ∧ Fr B0 [10, 11] κ H0 H ∧ Gr H0 H 8 714 ∧ (r = .null ∨ ∃ q, r = .ref q ∧ T2 κ1 q 7 15))) := by
  refine KC.of cX5_read 3 (some (.object "OneBeat$Setup")) (by decide) rfl (Nat.le_of_ble_eq_true rfl) ?_
  intro p e s m below meth c ls hx hb hr hml hown hts hlocks hin hN hE hH0 hl
  have hown : s.vm.findClass RX5 = some m.cls := hown
  have hl : lv_has ls 3 [(0, .ref w), (1, .int (nI n))] := hl
  have hL : OkL B0 [] := OkL.nil
  have hF : Fr B0 [10, 11] κ H0 H0 := Fr.rf
  refine lv_aload_n hx hb dX5_read_0 rfl (lv_at hl 0 rfl) ?_
  refine lv_iconst (v := 0) hx hb dX5_read_1 (by decide) ?_
  refine lv_iload_n hx hb dX5_read_2 rfl (lv_at hl 1 rfl) ?_
  refine lv_aload_n hx hb dX5_read_3 rfl (lv_at hl 0 rfl) ?_
  obtain ⟨hb5524, e5524, hat5524, hk5524⟩ := hT.o6 hw.1
  obtain ⟨f5524_0, f5524_2, f5524_3, f5524_4, f5524_5, f5524_6, f5524_7, f5524_8, f5524_9, f5524_10, f5524_11, f5524_12, f5524_13, rfl, c5524_1, c5524_2, c5524_3, c5524_5, c5524_10, t5524_0, t5524_9, c5524_11, c5524_p2⟩ := hk5524
  have hP : va_P D vwCl [(w, .inr (5, [.ref f5524_0, .int (nI ((κ w).2.2.1)), .int (nI f5524_2), .int (nI f5524_3), .int f5524_4, .int (nI f5524_5), .int f5524_6, .int f5524_7, .int f5524_8, .ref f5524_9, .int (nI f5524_10), f5524_11, .int f5524_12, .int f5524_13]))] _ := va_P.cons hat5524 va_P.nil
  refine va_get (D := D) (ci := 5) (v := .ref f5524_0) (C := RX5) (T := TX5) (N := 14) hx hb hts iX5_read_5 hown hN.1 hP 0 rfl rfl 0 (by decide) (hts _ mX5_read_1) (fun _ h9 => h9) rfl dX5_read_4 ?_
  obtain ⟨hb5525, e5525, hat5525, hk5525⟩ := hT.o16 t5524_0.1
  obtain ⟨g5525, rfl⟩ := hk5525
  have hP : va_P D vwCl [(f5524_0, .inl (cs 1, 600, .inl g5525)), (w, .inr (5, [.ref f5524_0, .int (nI ((κ w).2.2.1)), .int (nI f5524_2), .int (nI f5524_3), .int f5524_4, .int (nI f5524_5), .int f5524_6, .int f5524_7, .int f5524_8, .ref f5524_9, .int (nI f5524_10), f5524_11, .int f5524_12, .int f5524_13]))] _ := va_P.cons hat5525 hP
  refine va_alen (v := 600) hx hb hN.1 hP 0 1 rfl rfl rfl dX5_read_7 ?_
  refine va_mmin hx hb (hml.trans hl.1.symm) hown (hts _ mX5_read_2) (hts _ mX5_read_3) (hts _ mX5_read_4) (hts _ mX5_read_5) (Nat.le_of_ble_eq_true rfl) (Nat.le_of_ble_eq_true rfl) (Nat.zero_le _) (Nat.zero_le _) dX5_read_8 ?_
  obtain ⟨m5526, hm5526, em5526⟩ := nI_min (a := n) (b := 600) (by omega) (by omega)
  refine tp_i (nI m5526) em5526 ?_
  refine va_mmax hx hb (hml.trans hl.1.symm) hown (hts _ mX5_read_6) (hts _ mX5_read_7) (hts _ mX5_read_4) (hts _ mX5_read_8) (Nat.le_of_ble_eq_true rfl) (Nat.le_of_ble_eq_true rfl) (Nat.zero_le _) (Nat.zero_le _) dX5_read_11 ?_
  obtain ⟨m5527, hm5527, em5527⟩ := nI_max (a := 0) (b := m5526) (by omega) (by omega)
  refine tp_i (nI m5527) em5527 ?_
  have hB : Bx B0 D _ [(f5524_0, .inl (cs 1, 600, .inl g5525)), (w, .inr (5, [.ref f5524_0, .int (nI ((κ w).2.2.1)), .int (nI f5524_2), .int (nI f5524_3), .int f5524_4, .int (nI f5524_5), .int f5524_6, .int f5524_7, .int f5524_8, .ref f5524_9, .int (nI f5524_10), f5524_11, .int f5524_12, .int f5524_13]))] [] _ _ := Bx.of (fun a => (κ a).1) hL hP (fa_c hb5525 (fa_c hb5524 fa_n)) (by simp only [List.map_cons, List.map_nil, t5524_0.1, hw.1]; decide)
  refine b_put (D := D) (ci := 5) (v := .int (nI m5527)) (ty := .int) (C := RX5) (T := TX5) (N := 14) hx hb hts iX5_read_5 tyX5 tyX5_ok nmX5 hown hN hB 1 rfl rfl 2 (by decide) (hts _ mX5_read_9) (fun _ h9 => h9) rfl (by decide +kernel) rfl rfl (Nat.le_of_ble_eq_true rfl) (.inl rfl) dX5_read_14 (fun H locs hB => ?_)
  have hB : Bx B0 D _ [(f5524_0, .inl (cs 1, 600, .inl g5525)), (w, .inr (5, [.ref f5524_0, .int (nI ((κ w).2.2.1)), .int (nI m5527), .int (nI f5524_3), .int f5524_4, .int (nI f5524_5), .int f5524_6, .int f5524_7, .int f5524_8, .ref f5524_9, .int (nI f5524_10), f5524_11, .int f5524_12, .int f5524_13]))] [w] _ _ := hB
  refine lv_aload_n hx hb dX5_read_17 rfl (lv_at hl 0 rfl) ?_
  refine lv_iconst (v := 0) hx hb dX5_read_18 (by decide) ?_
  refine tp_i (nI 0) rfl ?_
  refine b_put (D := D) (ci := 5) (v := .int (nI 0)) (ty := .int) (C := RX5) (T := TX5) (N := 14) hx hb hts iX5_read_5 tyX5 tyX5_ok nmX5 hown hN hB 1 rfl rfl 1 (by decide) (hts _ mX5_read_10) (fun _ h9 => h9) rfl (by decide +kernel) rfl rfl (Nat.le_of_ble_eq_true rfl) (.inr ⟨rfl, List.mem_of_getElem? (i := 0) rfl⟩) dX5_read_19 (fun H locs hB => ?_)
  have hB : Bx B0 D _ [(f5524_0, .inl (cs 1, 600, .inl g5525)), (w, .inr (5, [.ref f5524_0, .int (nI 0), .int (nI m5527), .int (nI f5524_3), .int f5524_4, .int (nI f5524_5), .int f5524_6, .int f5524_7, .int f5524_8, .ref f5524_9, .int (nI f5524_10), f5524_11, .int f5524_12, .int f5524_13]))] [w] _ _ := hB
  refine lv_aload_n hx hb dX5_read_22 rfl (lv_at hl 0 rfl) ?_
  refine lv_iconst (v := 0) hx hb dX5_read_23 (by decide) ?_
  refine tp_i (nI 0) rfl ?_
  refine b_put (D := D) (ci := 5) (v := .int (nI 0)) (ty := .int) (C := RX5) (T := TX5) (N := 14) hx hb hts iX5_read_5 tyX5 tyX5_ok nmX5 hown hN hB 1 rfl rfl 3 (by decide) (hts _ mX5_read_11) (fun _ h9 => h9) rfl (by decide +kernel) rfl rfl (Nat.le_of_ble_eq_true rfl) (.inr ⟨rfl, List.mem_of_getElem? (i := 0) rfl⟩) dX5_read_24 (fun H locs hB => ?_)
  have hB : Bx B0 D _ [(f5524_0, .inl (cs 1, 600, .inl g5525)), (w, .inr (5, [.ref f5524_0, .int (nI 0), .int (nI m5527), .int (nI 0), .int f5524_4, .int (nI f5524_5), .int f5524_6, .int f5524_7, .int f5524_8, .ref f5524_9, .int (nI f5524_10), f5524_11, .int f5524_12, .int f5524_13]))] [w] _ _ := hB
  refine lv_aload_n hx hb dX5_read_27 rfl (lv_at hl 0 rfl) ?_
  refine lv_iconst (v := 0) hx hb dX5_read_28 (by decide) ?_
  refine tp_i (nI 0) rfl ?_
  refine b_put (D := D) (ci := 5) (v := .int (nI 0)) (ty := .int) (C := RX5) (T := TX5) (N := 14) hx hb hts iX5_read_5 tyX5 tyX5_ok nmX5 hown hN hB 1 rfl rfl 10 (by decide) (hts _ mX5_read_12) (fun _ h9 => h9) rfl (by decide +kernel) rfl rfl (Nat.le_of_ble_eq_true rfl) (.inr ⟨rfl, List.mem_of_getElem? (i := 0) rfl⟩) dX5_read_29 (fun H locs hB => ?_)
  have hB : Bx B0 D _ [(f5524_0, .inl (cs 1, 600, .inl g5525)), (w, .inr (5, [.ref f5524_0, .int (nI 0), .int (nI m5527), .int (nI 0), .int f5524_4, .int (nI f5524_5), .int f5524_6, .int f5524_7, .int f5524_8, .ref f5524_9, .int (nI 0), f5524_11, .int f5524_12, .int f5524_13]))] [w] _ _ := hB
  refine lv_aload_n hx hb dX5_read_32 rfl (lv_at hl 0 rfl) ?_
  refine lv_iconst (v := (-1)) hx hb dX5_read_33 (by decide) ?_
  refine b_put (D := D) (ci := 5) (v := .int (-1)) (ty := .int) (C := RX5) (T := TX5) (N := 14) hx hb hts iX5_read_5 tyX5 tyX5_ok nmX5 hown hN hB 1 rfl rfl 13 (by decide) (hts _ mX5_read_13) (fun _ h9 => h9) rfl (by decide +kernel) rfl rfl (Nat.le_of_ble_eq_true rfl) (.inr ⟨rfl, List.mem_of_getElem? (i := 0) rfl⟩) dX5_read_34 (fun H locs hB => ?_)
  have hB : Bx B0 D _ [(f5524_0, .inl (cs 1, 600, .inl g5525)), (w, .inr (5, [.ref f5524_0, .int (nI 0), .int (nI m5527), .int (nI 0), .int f5524_4, .int (nI f5524_5), .int f5524_6, .int f5524_7, .int f5524_8, .ref f5524_9, .int (nI 0), f5524_11, .int f5524_12, .int (-1)]))] [w] _ _ := hB
  have hF : Fr B0 [10, 11] κ H0 _ := hF.close hB (fa_c (by simp [hw.2]) fa_n)
  have hT : WT B0 D cs T (kp κ w 0 0) _ := hT.closeK w 0 0 hB (by rw [hw.1]; decide) (by rw [hw.1]; decide) (List.mem_of_getElem? (i := 0) rfl) ⟨⟨1, _, rfl, kp_ok (ok_6 (k := ((κ w).1, (κ w).2.1, _, _)) hw.1 ⟨_, _, _, _, _, _, _, _, _, _, _, _, _, rfl, (by show 0 ≤ 600; omega), (by omega), (by omega), (by omega), (by omega), (t2kp t5524_0), (t2kp t5524_9), (kp_su c5524_11), (Or.inl rfl)⟩)⟩, trivial⟩
  have hL : OkL B0 _ := hB.2.2.2.2.2
  have hP : va_P D vwCl [(f5524_0, .inl (cs 1, 600, .inl g5525)), (w, .inr (5, [.ref f5524_0, .int (nI 0), .int (nI m5527), .int (nI 0), .int f5524_4, .int (nI f5524_5), .int f5524_6, .int f5524_7, .int f5524_8, .ref f5524_9, .int (nI 0), f5524_11, .int f5524_12, .int (-1)]))] _ := hB.1
  obtain ⟨κ5528, hκ5528⟩ : ∃ κq : KM, κq = (kp κ w 0 0) := ⟨_, rfl⟩
  have hxf5528 : KF κ κ5528 := by rw [hκ5528]; exact KF.kp
  rw [← hκ5528] at hT
  have hKF : KF κ κ5528 := hxf5528
  have hw := (KF.t2 hxf5528 hw (by decide))
  have hKW : ∀ a, (κ a).1 ≠ 0 → a ≠ w → κ5528 a = κ a := fun a _ h9 => by rw [hκ5528, kp_n h9]
  have hw1 : (κ5528 w).2.2.1 = 0 := by rw [hκ5528, kp_a]
  refine lv_aload_n hx hb dX5_read_37 rfl (lv_at hl 0 rfl) ?_
  refine cv_v (As := []) (rest := []) (b := w) ⟨hx, hb, hml, hown, hts⟩ (c_X5_step hT (w := w) hw) (cwV 0 hts gX5_read_X5_step rfl rfl rfl hdX5_step_v ⟨Nat.le_of_ble_eq_true rfl, Nat.le_of_ble_eq_true rfl⟩) hN hE hL (rcv6 hN hT hw.1) rfl rfl hl.1 (Nat.le_of_ble_eq_true rfl) dX5_read_38 (Nat.zero_le _) (Nat.zero_le _) (fun H1 locs hL hqr5529 => ?_)
  obtain ⟨hT1, hF1, hqr5529⟩ := hqr5529
  have hF := hF.tr ((hF1.kf hKF).mono (by simp))
  have hT := hT1
  have f5530 := hqr5529
  refine lv_aload_n hx hb dX5_read_41 rfl (lv_at hl 0 rfl) ?_
  refine va_ldcS hx hb hown (hN.s 1 rfl) dX5_read_42 ?_
  refine cv_i (As := [.ref (cs 101)]) (rest := []) (b := w) ⟨hx, hb, hml, hown, hts⟩ (c_X5_takeWord hT (w := w) hw (i := 1) (by decide)) (cwV 1 hts gX5_read_X5_takeWord rfl rfl rfl hdX5_takeWord_v ⟨Nat.le_of_ble_eq_true rfl, Nat.le_of_ble_eq_true rfl⟩) hN hE hL (rcv6 hN hT hw.1) rfl rfl hl.1 (Nat.le_of_ble_eq_true rfl) dX5_read_44 (Nat.zero_le _) (Nat.zero_le _) (fun r5531 H1 locs hL hqr5531 => ?_)
  obtain ⟨hT1, hF1, hqr5531⟩ := hqr5531
  have hF := hF.tr ((hF1.kf hKF).mono (by simp))
  have hT := hT1
  rcases hqr5531 with rfl | rfl
  · refine lv_if_eq (tgt := 60) hx hb dX5_read_47 (by decide) (fun _ => ?_) (fun c9 => absurd (by decide) c9)
    refine lv_null hx hb dX5_read_60 ?_
    refine W.know (fun hg => ?_)
    rw [hH0] at hg
    exact en_n hx hb hr hlocks (by first | exact Or.inl ⟨_, rfl⟩ | exact Or.inr ⟨_, rfl⟩) hL (Nat.zero_le _) (Nat.zero_le _) (Or.inl rfl) dX5_read_61 (⟨κ5528, (fun a h1 h2 _ => hKW a h1 h2), (fun a h1 => (hKF a h1).1), hw, hw1, hT, hF, hg.mono (by omega) (by omega), Or.inl rfl⟩)
  · refine lv_if_eq (tgt := 60) hx hb dX5_read_47 (by decide) (fun c9 => absurd c9 (by decide)) (fun _ => ?_)
    refine lv_aload_n hx hb dX5_read_50 rfl (lv_at hl 0 rfl) ?_
    refine lv_iconst (v := 1) hx hb dX5_read_51 (by decide) ?_
    refine lv_bipush (v := 8) hx hb dX5_read_52 (by decide) ?_
    refine cv_i (As := [.int 1, .int 8]) (rest := []) (b := w) ⟨hx, hb, hml, hown, hts⟩ (c_X5_takeNumber hT (w := w) hw (x := 1) (y := 8)) (cwV 2 hts gX5_read_X5_takeNumber rfl rfl rfl hdX5_takeNumber_v ⟨Nat.le_of_ble_eq_true rfl, Nat.le_of_ble_eq_true rfl⟩) hN hE hL (rcv6 hN hT hw.1) rfl rfl hl.1 (Nat.le_of_ble_eq_true rfl) dX5_read_54 (Nat.zero_le _) (Nat.zero_le _) (fun r5532 H1 locs hL hqr5532 => ?_)
    obtain ⟨hT1, hF1, hqr5532⟩ := hqr5532
    have hF := hF.tr ((hF1.kf hKF).mono (by simp))
    have hT := hT1
    rcases hqr5532 with rfl | ⟨rfl, v5533, l5534, g5535, f5536⟩
    · refine lv_if_ne (tgt := 62) hx hb dX5_read_57 (by decide) (fun c9 => absurd (by decide) c9) (fun _ => ?_)
      refine lv_null hx hb dX5_read_60 ?_
      refine W.know (fun hg => ?_)
      rw [hH0] at hg
      exact en_n hx hb hr hlocks (by first | exact Or.inl ⟨_, rfl⟩ | exact Or.inr ⟨_, rfl⟩) hL (Nat.zero_le _) (Nat.zero_le _) (Or.inl rfl) dX5_read_61 (⟨κ5528, (fun a h1 h2 _ => hKW a h1 h2), (fun a h1 => (hKF a h1).1), hw, hw1, hT, hF, hg.mono (by omega) (by omega), Or.inl rfl⟩)
    · obtain ⟨n5537, hn5537a, hn5537b, rfl⟩ := rng (x := v5533) (lo := 1) (hi := 8) (by decide) (by decide) l5534 g5535
      refine lv_if_ne (tgt := 62) hx hb dX5_read_57 (by decide) (fun _ => ?_) (fun c9 => absurd c9 (by decide))
      refine lv_aload_n hx hb dX5_read_62 rfl (lv_at hl 0 rfl) ?_
      have hb0 : B0 ≤ _ := hT.b0 hw (by decide)
      have hP : va_P D vwCl [] _ := hT.nil
      have hB : Bx B0 D _ [] [] _ _ := Bx.of (fun a => (κ5528 a).1) hL hP fa_n (by simp only [List.map_cons, List.map_nil, ]; decide)
      refine nw_o (ci := 6) (fs := [.int 0, .int 0, .int 0, .null, .null, .null, .null, .null]) (C := RX6) (T := TX6) (N := 8) hx hb hts iX5_read_6 tyX6 tyX6_ok hown (hts _ mX5_read_14) (hts _ mX5_read_15) (hts _ mX5_read_16) hN rfl dfl6 (show 0 + 1 ≤ 11 by omega) (show 0 + 8 ≤ 1332 by omega) dX5_read_63 (fun q5538 H heq5538 hzq5538 hoq5538 hatq5538 => ?_)
      have hgeq5538 : _ ≤ q5538 := Nat.le_trans hB.2.2.1 (Nat.le_of_eq heq5538.symm)
      have hbq5538 : B0 ≤ q5538 := Nat.le_trans hb0 hgeq5538
      have hfq5538 : (κ5528 q5538).1 = 0 := hT.fresh hgeq5538
      have hB := hB.nw heq5538 hzq5538 hoq5538 hatq5538 hb0
      have hB : Bx B0 D _ [(q5538, .inr (6, [.int 0, .int 0, .int 0, .null, .null, .null, .null, .null]))] [] _ _ := hB
      have hT0 := hT
      refine lv_dup hx hb dX5_read_66 rfl ?_
      refine lv_aload_n hx hb dX5_read_67 rfl (lv_at hl 0 rfl) ?_
      obtain ⟨hb5539, e5539, hat5539, hk5539⟩ := hT.o6 hw.1
      obtain ⟨f5539_0, f5539_2, f5539_3, f5539_4, f5539_5, f5539_6, f5539_7, f5539_8, f5539_9, f5539_10, f5539_11, f5539_12, f5539_13, rfl, c5539_1, c5539_2, c5539_3, c5539_5, c5539_10, t5539_0, t5539_9, c5539_11, c5539_p2⟩ := hk5539
      obtain rfl : f5539_7 = nI n5537 := Value.int.inj (f5536.eq hat5539 rfl (by decide) rfl)
      have hB : Bx B0 D _ [(q5538, .inr (6, [.int 0, .int 0, .int 0, .null, .null, .null, .null, .null])), (w, .inr (5, [.ref f5539_0, .int (nI ((κ5528 w).2.2.1)), .int (nI f5539_2), .int (nI f5539_3), .int f5539_4, .int (nI f5539_5), .int f5539_6, .int (nI n5537), .int f5539_8, .ref f5539_9, .int (nI f5539_10), f5539_11, .int f5539_12, .int f5539_13]))] [] _ _ := hB.more hat5539 hb5539 (fa_c (nw_ne hat5539 hgeq5538) fa_n) fa_n
      refine va_get (D := D) (ci := 5) (v := .int (nI n5537)) (C := RX5) (T := TX5) (N := 14) hx hb hts iX5_read_5 hown hN.1 hB.1 1 rfl rfl 7 (by decide) (hts _ mX5_read_17) (fun _ h9 => h9) rfl dX5_read_68 ?_
      have hwO := hw
      have hKFO := hKF
      have hT : WT B0 D cs T κ5528 _ := hT.close hB trivial
      have hF : Fr B0 [10, 11] κ H0 _ := hF.closeN hB fa_n
      have hL : OkL B0 _ := hB.2.2.2.2.2
      have hP : va_P D vwCl [(q5538, .inr (6, [.int 0, .int 0, .int 0, .null, .null, .null, .null, .null])), (w, .inr (5, [.ref f5539_0, .int (nI ((κ5528 w).2.2.1)), .int (nI f5539_2), .int (nI f5539_3), .int f5539_4, .int (nI f5539_5), .int f5539_6, .int (nI n5537), .int f5539_8, .ref f5539_9, .int (nI f5539_10), f5539_11, .int f5539_12, .int f5539_13]))] _ := hB.1
      refine ci_v (As := [.int (nI n5537)]) (rest := [.ref q5538, .ref w]) (b := q5538) ⟨hx, hb, hml, hown, hts⟩ (c_X6_init hT (w := q5538) hfq5538 hbq5538 (hP 0 _ rfl) (n := n5537) (by first | omega | decide | assumption)) (cwI 1 hts gX5_read_X6_init rfl rfl rfl (hts _ mX5_read_16) (hts _ mX5_read_95) (hts _ mX5_read_96) rfl hdX6_init_o ⟨Nat.le_of_ble_eq_true rfl, Nat.le_of_ble_eq_true rfl⟩) hN hE hL rfl rfl hl.1 (Nat.le_of_ble_eq_true rfl) dX5_read_71 (show 1 + 4 ≤ 11 by omega) (show (0 + 8) + 88 ≤ 1332 by omega) (fun H1 locs hL hqr5540 => ?_)
      obtain ⟨κr5540, hxr5540, hT1, hF1, hqr5540⟩ := hqr5540
      have hF := hF.tr ((hF1.kf hKF).mono (by simp))
      have hT := hT1
      have hKF := hKF.tr hxr5540.f
      have hw := (hxr5540.f.t2 hw (by decide))
      obtain ⟨hq5538, hqr5540⟩ := hqr5540
      have ekq5538 := hqr5540
      have ew9 : κr5540 w = _ := hxr5540 w (by rw [hwO.1]; decide)
      have hKW : ∀ a, (κ a).1 ≠ 0 → a ≠ w → κr5540 a = κ a := fun a h1 h2 => (hxr5540 a (by rw [hKW a h1 h2]; exact h1)).trans (hKW a h1 h2)
      have hw1 : (κr5540 w).2.2.1 = 0 := by rw [ew9]; exact hw1
      have hsf : (κ q5538).1 = 0 := by have h9 := hfq5538; by_cases h8 : (κ q5538).1 = 0; exact h8; rw [(hKFO _ h8).1] at h9; exact h9
      have hq0 : ¬ q5538 = 0 := by have h9 := hT0.lt hwO (by decide); omega
      have hqw : q5538 ≠ w := ne_c hq5538.1 hw.1 (by decide)
      obtain ⟨hb5541, e5541, hat5541, hk5541⟩ := hT.o6 hw.1
      obtain ⟨f5541_0, f5541_2, f5541_3, f5541_4, f5541_5, f5541_6, f5541_7, f5541_8, f5541_9, f5541_10, f5541_11, f5541_12, f5541_13, rfl, c5541_1, c5541_2, c5541_3, c5541_5, c5541_10, t5541_0, t5541_9, c5541_11, c5541_p2⟩ := hk5541
      have hP : va_P D vwCl [(w, .inr (5, [.ref f5541_0, .int (nI ((κr5540 w).2.2.1)), .int (nI f5541_2), .int (nI f5541_3), .int f5541_4, .int (nI f5541_5), .int f5541_6, .int f5541_7, .int f5541_8, .ref f5541_9, .int (nI f5541_10), f5541_11, .int f5541_12, .int f5541_13]))] _ := va_P.cons hat5541 va_P.nil
      have hB : Bx B0 D _ [(w, .inr (5, [.ref f5541_0, .int (nI ((κr5540 w).2.2.1)), .int (nI f5541_2), .int (nI f5541_3), .int f5541_4, .int (nI f5541_5), .int f5541_6, .int f5541_7, .int f5541_8, .ref f5541_9, .int (nI f5541_10), f5541_11, .int f5541_12, .int f5541_13]))] [] _ _ := Bx.of (fun a => (κr5540 a).1) hL hP (fa_c hb5541 fa_n) (by simp only [List.map_cons, List.map_nil, hw.1]; decide)
      refine b_put (D := D) (ci := 5) (v := .ref q5538) (ty := .object "OneBeat$Setup") (C := RX5) (T := TX5) (N := 14) hx hb hts iX5_read_5 tyX5 tyX5_ok nmX5 hown hN hB 0 rfl rfl 11 (by decide) (hts _ mX5_read_18) (fun _ h9 => h9) rfl (by decide +kernel) rfl rfl (Nat.le_of_ble_eq_true rfl) (.inl rfl) dX5_read_74 (fun H locs hB => ?_)
      have hB : Bx B0 D _ [(w, .inr (5, [.ref f5541_0, .int (nI ((κr5540 w).2.2.1)), .int (nI f5541_2), .int (nI f5541_3), .int f5541_4, .int (nI f5541_5), .int f5541_6, .int f5541_7, .int f5541_8, .ref f5541_9, .int (nI f5541_10), .ref q5538, .int f5541_12, .int f5541_13]))] [w] _ _ := hB
      have hqO := hq5538
      have hF : Fr B0 [10, 11] κ H0 _ := hF.closeN hB (fa_c (fun h9 => by rw [← (hKF _ h9).2, hw.2]; simp) fa_n)
      have hT : WT B0 D cs T (kp κr5540 w (κr5540 w).2.2.1 q5538) _ := hT.closeK w (κr5540 w).2.2.1 q5538 hB (by rw [hw.1]; decide) (by rw [hw.1]; decide) (List.mem_of_getElem? (i := 0) rfl) ⟨⟨0, _, rfl, kp_ok (ok_6 (k := ((κr5540 w).1, (κr5540 w).2.1, _, _)) hw.1 ⟨_, _, _, _, _, _, _, _, _, _, _, _, _, rfl, (by show (κr5540 w).2.2.1 ≤ 600; omega), (by omega), (by omega), (by omega), (by omega), (t2kp t5541_0), (t2kp t5541_9), (kp_su (Or.inr ⟨_, rfl, hq5538.1⟩)), (Or.inr rfl)⟩)⟩, trivial⟩
      have hL : OkL B0 _ := hB.2.2.2.2.2
      have hP : va_P D vwCl [(w, .inr (5, [.ref f5541_0, .int (nI ((κr5540 w).2.2.1)), .int (nI f5541_2), .int (nI f5541_3), .int f5541_4, .int (nI f5541_5), .int f5541_6, .int f5541_7, .int f5541_8, .ref f5541_9, .int (nI f5541_10), .ref q5538, .int f5541_12, .int f5541_13]))] _ := hB.1
      obtain ⟨κ5542, hκ5542⟩ : ∃ κq : KM, κq = (kp κr5540 w (κr5540 w).2.2.1 q5538) := ⟨_, rfl⟩
      have hxf5542 : KF κr5540 κ5542 := by rw [hκ5542]; exact KF.kp
      rw [← hκ5542] at hT
      have hKF := hKF.tr hxf5542
      have hw := (KF.t2 hxf5542 hw (by decide))
      have hKW : ∀ a, (κ a).1 ≠ 0 → a ≠ w → κ5542 a = κ a := fun a h1 h9 => by rw [hκ5542, kp_n h9]; exact hKW a h1 h9
      have hw1 : (κ5542 w).2.2.1 = 0 := by rw [hκ5542, kp_a]; exact hw1
      have ewq : (κ5542 w).2.2.2 = q5538 := by rw [hκ5542, kp_a]
      have hsf : (κ (κ5542 w).2.2.2).1 = 0 := by rw [ewq]; exact hsf
      have hs0 : ¬ (κ5542 w).2.2.2 = 0 := by rw [ewq]; exact hq0
      have hsu : T2 κ5542 (κ5542 w).2.2.2 7 11 := by rw [ewq]; exact hxf5542.t2 hqO (by decide)
      have hp1 : (κ5542 (κ5542 w).2.2.2).2.2.1 ≠ 1 := by rw [ewq, hκ5542, kp_n hqw, ekq5538]; decide
      refine lv_aload_n hx hb dX5_read_77 rfl (lv_at hl 0 rfl) ?_
      refine lv_bipush (v := 59) hx hb dX5_read_78 (by decide) ?_
      refine cv_i (As := [.int 59]) (rest := []) (b := w) ⟨hx, hb, hml, hown, hts⟩ (c_X5_takeMark hT (w := w) hw (x := 59)) (cwV 1 hts gX5_read_X5_takeMark rfl rfl rfl hdX5_takeMark_v ⟨Nat.le_of_ble_eq_true rfl, Nat.le_of_ble_eq_true rfl⟩) hN hE hL (rcv6 hN hT hw.1) rfl rfl hl.1 (Nat.le_of_ble_eq_true rfl) dX5_read_80 (show 5 + 0 ≤ 11 by omega) (show ((0 + 8) + 88) + 0 ≤ 1332 by omega) (fun r5543 H1 locs hL hqr5543 => ?_)
      obtain ⟨hT1, hF1, hqr5543⟩ := hqr5543
      have hF := hF.tr ((hF1.kf hKF).mono (by simp))
      have hT := hT1
      rcases hqr5543 with rfl | rfl
      · refine lv_if_ne (tgt := 88) hx hb dX5_read_83 (by decide) (fun c9 => absurd (by decide) c9) (fun _ => ?_)
        refine lv_null hx hb dX5_read_86 ?_
        refine W.know (fun hg => ?_)
        rw [hH0] at hg
        exact en_n hx hb hr hlocks (by first | exact Or.inl ⟨_, rfl⟩ | exact Or.inr ⟨_, rfl⟩) hL (show 5 ≤ 11 by omega) (show ((0 + 8) + 88) ≤ 1332 by omega) (Or.inl rfl) dX5_read_87 (⟨κ5542, (fun a h1 h2 _ => hKW a h1 h2), (fun a h1 => (hKF a h1).1), hw, hw1, hT, hF, hg.mono (by omega) (by omega), Or.inl rfl⟩)
      · refine lv_if_ne (tgt := 88) hx hb dX5_read_83 (by decide) (fun _ => ?_) (fun c9 => absurd c9 (by decide))
        refine lv_iconst (v := 0) hx hb dX5_read_88 (by decide) ?_
        refine lv_istore_n (lv' := [(2, .int 0), (0, .ref w), (1, .int (nI n))]) hx hb dX5_read_89 rfl hl (by decide) rfl (fun ls hl => ?_)
        refine W.know (fun hg => ?_)
        rw [hH0] at hg
        have hgg : GG9 κ5542 w H0 _ := Or.inl ⟨hp1, hg.mono (by omega) (by omega)⟩
        refine W.tight (k := 8) (n := 714) (by rw [hH0]; exact hgg.all) ?_
        refine lp_m (α := Nat × KM) (nL := 3) (fun a9 => 600 - a9.1) (fun a9 H9 l9 => (a9.1 ≤ 600) ∧ (∀ a, (κ a).1 ≠ 0 → a ≠ w → a9.2 a = κ a) ∧ (KF κ a9.2) ∧ (T2 a9.2 w 6 10) ∧ ((a9.2 w).2.2.1 = 0) ∧ ((κ (a9.2 w).2.2.2).1 = 0) ∧ (¬ (a9.2 w).2.2.2 = 0) ∧ (T2 a9.2 (a9.2 w).2.2.2 7 11) ∧ (GG9 a9.2 w H0 H9) ∧ (WT B0 D cs T a9.2 H9) ∧ (Fr B0 [10, 11] κ H0 H9) ∧ (OkL B0 l9)) (fun a9 => [(2, .int (nI a9.1)), (0, .ref w)]) ?_ (0, κ5542) _ _ _ ⟨(by show (0) ≤ 600; omega), hKW, hKF, hw, hw1, hsf, hs0, hsu, hgg, hT, hF, hL⟩ (lv_sub hl [0, 1] rfl)
        rintro ⟨k, κ9⟩ H locs ls ih5544 ⟨hk, hKW, hKF, hw, hw1, hsf, hs0, hsu, hgg, hT, hF, hL⟩ hl
        have hl : lv_has ls 3 [(2, .int (nI k)), (0, .ref w)] := hl
        have hk : k ≤ 600 := hk
        have hKW : ∀ a, (κ a).1 ≠ 0 → a ≠ w → κ9 a = κ a := hKW
        have hKF : KF κ κ9 := hKF
        have hw : T2 κ9 w 6 10 := hw
        have hw1 : (κ9 w).2.2.1 = 0 := hw1
        have hsf : (κ (κ9 w).2.2.2).1 = 0 := hsf
        have hs0 : ¬ (κ9 w).2.2.2 = 0 := hs0
        have hsu : T2 κ9 (κ9 w).2.2.2 7 11 := hsu
        have hgg : GG9 κ9 w H0 H := hgg
        have hT : WT B0 D cs T κ9 _ := hT
        refine lv_iload_n hx hb dX5_read_90 rfl (lv_at hl 0 rfl) ?_
        refine lv_sipush (v := 600) hx hb dX5_read_91 (by decide) ?_
        refine lv_icmp_ge (tgt := 128) hx hb dX5_read_94 (by decide) (fun c5545 => ?_) (fun c5545 => ?_)
        · have c5545 : 600 ≤ k := (nI_leI (a := 600) (b := k) (by omega) (by omega)).mp c5545
          refine lv_aload_n hx hb dX5_read_128 rfl (lv_at hl 1 rfl) ?_
          obtain ⟨hb5546, e5546, hat5546, hk5546⟩ := hT.o6 hw.1
          obtain ⟨f5546_0, f5546_2, f5546_3, f5546_4, f5546_5, f5546_6, f5546_7, f5546_8, f5546_9, f5546_10, f5546_11, f5546_12, f5546_13, rfl, c5546_1, c5546_2, c5546_3, c5546_5, c5546_10, t5546_0, t5546_9, c5546_11, c5546_p2⟩ := hk5546
          obtain rfl : f5546_11 = .ref (κ9 w).2.2.2 := c5546_p2.resolve_left hs0
          have hP : va_P D vwCl [(w, .inr (5, [.ref f5546_0, .int (nI ((κ9 w).2.2.1)), .int (nI f5546_2), .int (nI f5546_3), .int f5546_4, .int (nI f5546_5), .int f5546_6, .int f5546_7, .int f5546_8, .ref f5546_9, .int (nI f5546_10), .ref (κ9 w).2.2.2, .int f5546_12, .int f5546_13]))] _ := va_P.cons hat5546 va_P.nil
          refine va_get (D := D) (ci := 5) (v := .ref (κ9 w).2.2.2) (C := RX5) (T := TX5) (N := 14) hx hb hts iX5_read_5 hown hN.1 hP 0 rfl rfl 11 (by decide) (hts _ mX5_read_18) (fun _ h9 => h9) rfl dX5_read_129 ?_
          refine cv_v (As := []) (rest := []) (b := (κ9 w).2.2.2) ⟨hx, hb, hml, hown, hts⟩ (KC.grv (c_X6_fillIn hT (w := (κ9 w).2.2.2) hsu)) (cwV 0 hts gX5_read_X6_fillIn rfl rfl rfl hdX6_fillIn_v ⟨Nat.le_of_ble_eq_true rfl, Nat.le_of_ble_eq_true rfl⟩) hN hE hL (rcv7 hN hT hsu.1) rfl rfl hl.1 (Nat.le_of_ble_eq_true rfl) dX5_read_132 (show 8 + 0 ≤ 11 by omega) (show 714 + 0 ≤ 1332 by omega) (fun H1 locs hL hqr5547 => ?_)
          obtain ⟨hgr5547, hqr5547⟩ := hqr5547
          obtain ⟨hT1, hF1⟩ := hqr5547
          have hP : va_P D vwCl [(w, .inr (5, [.ref f5546_0, .int (nI ((κ9 w).2.2.1)), .int (nI f5546_2), .int (nI f5546_3), .int f5546_4, .int (nI f5546_5), .int f5546_6, .int f5546_7, .int f5546_8, .ref f5546_9, .int (nI f5546_10), .ref (κ9 w).2.2.2, .int f5546_12, .int f5546_13]))] _ := hF1.hP (hP.sub [0] rfl) (fa_c ⟨by rw [hw.1]; decide, by rw [hw.2]; first | decide | (simp; done) | (simp [h15a, h15b, h15c]; done) | (simp; omega)⟩ fa_n)
          have hF := hF.tr ((hF1.kf hKF).mono (by simp))
          have hT := hT1
          have hgg : GG9 κ9 w H0 _ := hgg.gr hgr5547
          refine lv_aload_n hx hb dX5_read_135 rfl (lv_at hl 1 rfl) ?_
          refine va_get (D := D) (ci := 5) (v := .ref (κ9 w).2.2.2) (C := RX5) (T := TX5) (N := 14) hx hb hts iX5_read_5 hown hN.1 hP 0 rfl rfl 11 (by decide) (hts _ mX5_read_18) (fun _ h9 => h9) rfl dX5_read_136 ?_
          refine W.know (fun hg => ?_)
          rw [hH0] at hg
          exact en_n hx hb hr hlocks (by first | exact Or.inl ⟨_, rfl⟩ | exact Or.inr ⟨_, rfl⟩) hL (show 8 ≤ 11 by omega) (show 714 ≤ 1332 by omega) (Or.inr ⟨_, rfl⟩) dX5_read_139 (⟨ro κ9, (fun a h1 h2 h3 => by rw [ro_n (by rw [hKW a h1 h2]; exact h3)]; exact hKW a h1 h2), (fun a h1 => (hKF a h1).1), (by rw [T2, ro_n (by rw [hw.2]; decide)]; exact hw), (by rw [ro_n (by rw [hw.2]; decide)]; exact hw1), hT.re, hF, hgg.all, Or.inr ⟨_, rfl, ro_t hsu⟩⟩)
        · have c5545 : ¬ 600 ≤ k := fun h9 => c5545 ((nI_leI (a := 600) (b := k) (by omega) (by omega)).mpr h9)
          refine lv_aload_n hx hb dX5_read_97 rfl (lv_at hl 1 rfl) ?_
          obtain ⟨hb5548, e5548, hat5548, hk5548⟩ := hT.o6 hw.1
          obtain ⟨f5548_0, f5548_2, f5548_3, f5548_4, f5548_5, f5548_6, f5548_7, f5548_8, f5548_9, f5548_10, f5548_11, f5548_12, f5548_13, rfl, c5548_1, c5548_2, c5548_3, c5548_5, c5548_10, t5548_0, t5548_9, c5548_11, c5548_p2⟩ := hk5548
          obtain rfl : f5548_11 = .ref (κ9 w).2.2.2 := c5548_p2.resolve_left hs0
          have hP : va_P D vwCl [(w, .inr (5, [.ref f5548_0, .int (nI ((κ9 w).2.2.1)), .int (nI f5548_2), .int (nI f5548_3), .int f5548_4, .int (nI f5548_5), .int f5548_6, .int f5548_7, .int f5548_8, .ref f5548_9, .int (nI f5548_10), .ref (κ9 w).2.2.2, .int f5548_12, .int f5548_13]))] _ := va_P.cons hat5548 va_P.nil
          refine va_get (D := D) (ci := 5) (v := .int f5548_4) (C := RX5) (T := TX5) (N := 14) hx hb hts iX5_read_5 hown hN.1 hP 0 rfl rfl 4 (by decide) (hts _ mX5_read_19) (fun _ h9 => h9) rfl dX5_read_98 ?_
          refine lv_if_eq (tgt := 128) hx hb dX5_read_101 (by decide) (fun c5549 => ?_) (fun c5549 => ?_)
          · refine lv_aload_n hx hb dX5_read_128 rfl (lv_at hl 1 rfl) ?_
            refine va_get (D := D) (ci := 5) (v := .ref (κ9 w).2.2.2) (C := RX5) (T := TX5) (N := 14) hx hb hts iX5_read_5 hown hN.1 hP 0 rfl rfl 11 (by decide) (hts _ mX5_read_18) (fun _ h9 => h9) rfl dX5_read_129 ?_
            refine cv_v (As := []) (rest := []) (b := (κ9 w).2.2.2) ⟨hx, hb, hml, hown, hts⟩ (KC.grv (c_X6_fillIn hT (w := (κ9 w).2.2.2) hsu)) (cwV 0 hts gX5_read_X6_fillIn rfl rfl rfl hdX6_fillIn_v ⟨Nat.le_of_ble_eq_true rfl, Nat.le_of_ble_eq_true rfl⟩) hN hE hL (rcv7 hN hT hsu.1) rfl rfl hl.1 (Nat.le_of_ble_eq_true rfl) dX5_read_132 (show 8 + 0 ≤ 11 by omega) (show 714 + 0 ≤ 1332 by omega) (fun H1 locs hL hqr5550 => ?_)
            obtain ⟨hgr5550, hqr5550⟩ := hqr5550
            obtain ⟨hT1, hF1⟩ := hqr5550
            have hP : va_P D vwCl [(w, .inr (5, [.ref f5548_0, .int (nI ((κ9 w).2.2.1)), .int (nI f5548_2), .int (nI f5548_3), .int f5548_4, .int (nI f5548_5), .int f5548_6, .int f5548_7, .int f5548_8, .ref f5548_9, .int (nI f5548_10), .ref (κ9 w).2.2.2, .int f5548_12, .int f5548_13]))] _ := hF1.hP (hP.sub [0] rfl) (fa_c ⟨by rw [hw.1]; decide, by rw [hw.2]; first | decide | (simp; done) | (simp [h15a, h15b, h15c]; done) | (simp; omega)⟩ fa_n)
            have hF := hF.tr ((hF1.kf hKF).mono (by simp))
            have hT := hT1
            have hgg : GG9 κ9 w H0 _ := hgg.gr hgr5550
            refine lv_aload_n hx hb dX5_read_135 rfl (lv_at hl 1 rfl) ?_
            refine va_get (D := D) (ci := 5) (v := .ref (κ9 w).2.2.2) (C := RX5) (T := TX5) (N := 14) hx hb hts iX5_read_5 hown hN.1 hP 0 rfl rfl 11 (by decide) (hts _ mX5_read_18) (fun _ h9 => h9) rfl dX5_read_136 ?_
            refine W.know (fun hg => ?_)
            rw [hH0] at hg
            exact en_n hx hb hr hlocks (by first | exact Or.inl ⟨_, rfl⟩ | exact Or.inr ⟨_, rfl⟩) hL (show 8 ≤ 11 by omega) (show 714 ≤ 1332 by omega) (Or.inr ⟨_, rfl⟩) dX5_read_139 (⟨ro κ9, (fun a h1 h2 h3 => by rw [ro_n (by rw [hKW a h1 h2]; exact h3)]; exact hKW a h1 h2), (fun a h1 => (hKF a h1).1), (by rw [T2, ro_n (by rw [hw.2]; decide)]; exact hw), (by rw [ro_n (by rw [hw.2]; decide)]; exact hw1), hT.re, hF, hgg.all, Or.inr ⟨_, rfl, ro_t hsu⟩⟩)
          · refine lv_aload_n hx hb dX5_read_104 rfl (lv_at hl 1 rfl) ?_
            refine cv_i (As := []) (rest := []) (b := w) ⟨hx, hb, hml, hown, hts⟩ (c_X5_readStatement hT (w := w) hw (by first | omega | decide | assumption) (by first | omega | decide | assumption)) (cwV 0 hts gX5_read_X5_readStatement rfl rfl rfl hdX5_readStatement_v ⟨Nat.le_of_ble_eq_true rfl, Nat.le_of_ble_eq_true rfl⟩) hN hE hL (rcv6 hN hT hw.1) rfl rfl hl.1 (Nat.le_of_ble_eq_true rfl) dX5_read_105 (show 8 + 3 ≤ 11 by omega) (show 714 + 618 ≤ 1332 by omega) (fun r5551 H1 locs hL hqr5551 => ?_)
            obtain ⟨κr5551, hxr5551, hT1, hF1, hsr5551, hqr5551⟩ := hqr5551
            have hF := hF.tr ((hF1.kf hKF).mono (by simp))
            have hT := hT1
            have hxfr5551 := KSF hxr5551 hsu hsr5551
            have ew9 : κr5551 w = κ9 w := hxr5551 w (by rw [hw.1]; decide) (ne_c hw.1 hsu.1 (by decide))
            have hKW : ∀ a, (κ a).1 ≠ 0 → a ≠ w → κr5551 a = κ a := fun a h1 h2 => (hxr5551 a (by rw [hKW a h1 h2]; exact h1) (fun e9 => h1 (by rw [e9]; exact hsf))).trans (hKW a h1 h2)
            obtain ⟨hgs, hqr5551⟩ := hqr5551
            have hgg : GG9 κr5551 w H0 _ := hgg.step ew9 hgs
            have hsf : (κ (κr5551 w).2.2.2).1 = 0 := by rw [ew9]; exact hsf
            have hs0 : ¬ (κr5551 w).2.2.2 = 0 := by rw [ew9]; exact hs0
            have hsu : T2 κr5551 (κr5551 w).2.2.2 7 11 := by rw [ew9]; exact hsr5551
            have hw1 : (κr5551 w).2.2.1 = 0 := by rw [ew9]; exact hw1
            have hKF := hKF.tr hxfr5551
            have hw := (KF.t2 hxfr5551 hw (by decide))
            rcases hqr5551 with rfl | rfl
            · refine lv_if_eq (tgt := 120) hx hb dX5_read_108 (by decide) (fun _ => ?_) (fun c9 => absurd (by decide) c9)
              refine lv_null hx hb dX5_read_120 ?_
              refine W.know (fun hg => ?_)
              rw [hH0] at hg
              exact en_n hx hb hr hlocks (by first | exact Or.inl ⟨_, rfl⟩ | exact Or.inr ⟨_, rfl⟩) hL (show 11 ≤ 11 by omega) (show (714 + 618) ≤ 1332 by omega) (Or.inl rfl) dX5_read_121 (⟨κr5551, (fun a h1 h2 _ => hKW a h1 h2), (fun a h1 => (hKF a h1).1), hw, hw1, hT, hF, hgg.all, Or.inl rfl⟩)
            · refine lv_if_eq (tgt := 120) hx hb dX5_read_108 (by decide) (fun c9 => absurd c9 (by decide)) (fun _ => ?_)
              refine lv_aload_n hx hb dX5_read_111 rfl (lv_at hl 1 rfl) ?_
              refine lv_bipush (v := 59) hx hb dX5_read_112 (by decide) ?_
              refine cv_i (As := [.int 59]) (rest := []) (b := w) ⟨hx, hb, hml, hown, hts⟩ (KC.gri (c_X5_takeMark hT (w := w) hw (x := 59))) (cwV 1 hts gX5_read_X5_takeMark rfl rfl rfl hdX5_takeMark_v ⟨Nat.le_of_ble_eq_true rfl, Nat.le_of_ble_eq_true rfl⟩) hN hE hL (rcv6 hN hT hw.1) rfl rfl hl.1 (Nat.le_of_ble_eq_true rfl) dX5_read_114 (show 11 + 0 ≤ 11 by omega) (show (714 + 618) + 0 ≤ 1332 by omega) (fun r5552 H1 locs hL hqr5552 => ?_)
              obtain ⟨hgr5552, hqr5552⟩ := hqr5552
              obtain ⟨hT1, hF1, hqr5552⟩ := hqr5552
              have hF := hF.tr ((hF1.kf hKF).mono (by simp))
              have hT := hT1
              have hgg : GG9 κr5551 w H0 _ := hgg.gr hgr5552
              rcases hqr5552 with rfl | rfl
              · refine lv_if_ne (tgt := 122) hx hb dX5_read_117 (by decide) (fun c9 => absurd (by decide) c9) (fun _ => ?_)
                refine lv_null hx hb dX5_read_120 ?_
                refine W.know (fun hg => ?_)
                rw [hH0] at hg
                exact en_n hx hb hr hlocks (by first | exact Or.inl ⟨_, rfl⟩ | exact Or.inr ⟨_, rfl⟩) hL (show 11 ≤ 11 by omega) (show (714 + 618) ≤ 1332 by omega) (Or.inl rfl) dX5_read_121 (⟨κr5551, (fun a h1 h2 _ => hKW a h1 h2), (fun a h1 => (hKF a h1).1), hw, hw1, hT, hF, hgg.all, Or.inl rfl⟩)
              · refine lv_if_ne (tgt := 122) hx hb dX5_read_117 (by decide) (fun _ => ?_) (fun c9 => absurd c9 (by decide))
                refine lv_iinc (v := (nI (k + 1))) (lv' := [(2, .int (nI (k + 1))), (0, .ref w)]) hx hb dX5_read_122 hl (k := 0) rfl (nI_add _ 1) (by decide) rfl (fun ls hl => ?_)
                refine lv_goto (tgt := 90) hx hb dX5_read_125 (by decide) ?_
                refine W.tight (k := 8) (n := 714) (by rw [hH0]; exact hgg.all) ?_
                exact ih5544 ((k + 1), κr5551) _ _ _ (by show 600 - ((k + 1)) < 600 - k; omega) ⟨(by show ((k + 1)) ≤ 600; omega), hKW, hKF, hw, hw1, hsf, hs0, hsu, hgg, hT, hF, hL⟩ (lv_sub hl [0, 1] rfl)
