theorem mJ7_copyOf_59c91_7 : (.arrayClass .int : Cond) ∈ wsJ7_copyOf_59c91 := List.mem_of_getElem? (i := 7) (by decide +kernel)
theorem mJ7_copyOf_59c91_8 : (.methodLink RJ7 304 Lib.Math.min.name : Cond) ∈ wsJ7_copyOf_59c91 := List.mem_of_getElem? (i := 8) (by decide +kernel)
theorem mJ7_copyOf_59c91_9 : (.static Lib.Math.min.name : Cond) ∈ wsJ7_copyOf_59c91 := List.mem_of_getElem? (i := 9) (by decide +kernel)
theorem mJ7_copyOf_59c91_10 : (.initialized "java/lang/Math" : Cond) ∈ wsJ7_copyOf_59c91 := List.mem_of_getElem? (i := 10) (by decide +kernel)
theorem mJ7_copyOf_59c91_11 : (.code Lib.Math.min.name Lib.Math.min.code 2 (some .int) : Cond) ∈ wsJ7_copyOf_59c91 := List.mem_of_getElem? (i := 11) (by decide +kernel)
theorem mJ7_copyOf_59c91_12 : (.methodLink RJ7 150 arraycopyName : Cond) ∈ wsJ7_copyOf_59c91 := List.mem_of_getElem? (i := 12) (by decide +kernel)
theorem mJ7_copyOf_59c91_13 : (.native arraycopyName : Cond) ∈ wsJ7_copyOf_59c91 := List.mem_of_getElem? (i := 13) (by decide +kernel)
theorem mJ7_copyOf_59c91_14 : (.static arraycopyName : Cond) ∈ wsJ7_copyOf_59c91 := List.mem_of_getElem? (i := 14) (by decide +kernel)
theorem mJ7_copyOf_59c91_15 : (.initialized "java/lang/System" : Cond) ∈ wsJ7_copyOf_59c91 := List.mem_of_getElem? (i := 15) (by decide +kernel)
theorem mJ7_copyOf_59c91_1 : (.methodLink RJ7 316 ⟨"[I", "clone", "()Ljava/lang/Object;"⟩ : Cond) ∈ wsJ7_copyOf_59c91 := List.mem_of_getElem? (i := 1) (by decide +kernel)
theorem mJ7_copyOf_59c91_2 : (.sameMethod "[I" "java/lang/Object" "clone" "()Ljava/lang/Object;" : Cond) ∈ wsJ7_copyOf_59c91 := List.mem_of_getElem? (i := 2) (by decide +kernel)
theorem mJ7_copyOf_59c91_3 : (.native ⟨"java/lang/Object", "clone", "()Ljava/lang/Object;"⟩ : Cond) ∈ wsJ7_copyOf_59c91 := List.mem_of_getElem? (i := 3) (by decide +kernel)
theorem mJ7_copyOf_59c91_4 : (.instanceMethod ⟨"java/lang/Object", "clone", "()Ljava/lang/Object;"⟩ : Cond) ∈ wsJ7_copyOf_59c91 := List.mem_of_getElem? (i := 4) (by decide +kernel)
theorem mJ7_copyOf_59c91_5 : (.selects "[I" ⟨"[I", "clone", "()Ljava/lang/Object;"⟩ ⟨"java/lang/Object", "clone", "()Ljava/lang/Object;"⟩ : Cond) ∈ wsJ7_copyOf_59c91 := List.mem_of_getElem? (i := 5) (by decide +kernel)
theorem mJ7_copyOf_59c91_6 : (.classLink RJ7 317 "[I" : Cond) ∈ wsJ7_copyOf_59c91 := List.mem_of_getElem? (i := 6) (by decide +kernel)
set_option maxHeartbeats 4000000 in
set_option maxRecDepth 100000 in
theorem c_J7_copyOf_59c91 {l : Launch} {D : va_G} {cs : Nat → ClassId} {B0 : Nat} {H0 : Heap} {v n : Nat} {g : Nat → Int32} (hvb : B0 ≤ v) (hva : va_at D vwCl (v, .inl (cs 0, 600, .inl g)) H0) (hn : n ≤ 600) : KC l yJ7_copyOf_59c91 wsJ7_copyOf_59c91 1 60 1 600 D cs B0 H0 [.ref v, .int (nI n)] (Qr (fun r H => r = H0.size ∧ H.size = r + 1 ∧ (∀ x, x < r → H[x]? = H0[x]?) ∧ ∃ f, va_at D vwCl (r, .inl (cs 0, n, .inl f)) H)) := by
  refine KC.of cJ7_copyOf_59c91 3 (some (.array .int)) (by decide) rfl (Nat.le_of_ble_eq_true rfl) ?_
  intro p e s m below meth c ls hx hb hr hml hown hts hlocks hin hN hE hH0 hl
  have hown : s.vm.findClass RJ7 = some m.cls := hown
  have hl : lv_has ls 3 [(0, .ref v), (1, .int (nI n))] := hl
  have hL : OkL B0 [] := OkL.nil
  have hP : va_P D vwCl [(v, .inl (cs 0, 600, .inl g))] _ := va_P.cons hva va_P.nil
  have hb0 : B0 ≤ H0.size := Nat.le_trans hvb (Nat.le_of_lt hva.lt)
  refine lv_iload_n hx hb dJ7_copyOf_59c91_0 rfl (lv_at hl 1 rfl) ?_
  refine lv_aload_n hx hb dJ7_copyOf_59c91_1 rfl (lv_at hl 0 rfl) ?_
  refine va_alen (v := 600) hx hb hN.1 hP 0 0 rfl rfl rfl dJ7_copyOf_59c91_2 ?_
  refine lv_icmp_ne (tgt := 14) hx hb dJ7_copyOf_59c91_3 (by decide) (fun c5788 => ?_) (fun c5788 => ?_)
  · have c5788 : ¬ n = 600 := fun h9 => c5788 ((nI_eq (a := n) (b := 600) (by omega) (by omega)).mpr h9)
    refine lv_iload_n hx hb dJ7_copyOf_59c91_14 rfl (lv_at hl 1 rfl) ?_
    have hB : Bx B0 D _ [(v, .inl (cs 0, 600, .inl g))] [] _ _ := Bx.of (fun a => a) hL hP (fa_c hvb fa_n) (by simp)
    refine nw_a (atype := .int) (ty := .int) (N' := n) (a0 := (n, .inl (fun _ => 0))) 0 hN rfl hx hb (hts _ mJ7_copyOf_59c91_7) rfl (fun _ => rfl) (nI_pos (n := n) (by omega)) (nI_clamp (n := n) (by omega)) (show n * _ ≤ _ by simp only [componentBytes]; omega) (show 0 + 1 ≤ 1 by omega) (show 0 + n ≤ 600 by omega) dJ7_copyOf_59c91_15 (fun q5789 H heq5789 hzq5789 hoq5789 hatq5789 => ?_)
    have hB := hB.nwm heq5789 hzq5789 hoq5789 hatq5789 hb0
    have hB : Bx B0 D _ [(v, .inl (cs 0, 600, .inl g)), (q5789, .inl (cs 0, n, .inl (fun _ => 0)))] [q5789] _ _ := hB
    refine lv_astore_n (lv' := [(2, .ref q5789), (0, .ref v), (1, .int (nI n))]) hx hb dJ7_copyOf_59c91_17 rfl hl (by decide) rfl (fun ls hl => ?_)
    refine lv_aload_n hx hb dJ7_copyOf_59c91_18 rfl (lv_at hl 1 rfl) ?_
    refine lv_iconst (v := 0) hx hb dJ7_copyOf_59c91_19 (by decide) ?_
    refine lv_aload_n hx hb dJ7_copyOf_59c91_20 rfl (lv_at hl 0 rfl) ?_
    refine lv_iconst (v := 0) hx hb dJ7_copyOf_59c91_21 (by decide) ?_
    refine lv_aload_n hx hb dJ7_copyOf_59c91_22 rfl (lv_at hl 1 rfl) ?_
    refine va_alen (v := 600) hx hb hN.1 hB.1 0 0 rfl rfl rfl dJ7_copyOf_59c91_23 ?_
    refine lv_iload_n hx hb dJ7_copyOf_59c91_24 rfl (lv_at hl 2 rfl) ?_
    refine va_mmin hx hb (hml.trans hl.1.symm) hown (hts _ mJ7_copyOf_59c91_8) (hts _ mJ7_copyOf_59c91_9) (hts _ mJ7_copyOf_59c91_10) (hts _ mJ7_copyOf_59c91_11) (Nat.le_of_ble_eq_true rfl) (Nat.le_of_ble_eq_true rfl) (show 1 ≤ 1 by omega) (show (0 + n) ≤ 600 by omega) dJ7_copyOf_59c91_25 ?_
    obtain ⟨m5790, hm5790, em5790⟩ := nI_min (a := 600) (b := n) (by omega) (by omega)
    refine tp_i (nI m5790) em5790 ?_
    refine b_cpy hx hb (hml.trans hl.1.symm) hown (hts _ mJ7_copyOf_59c91_12) (hts _ mJ7_copyOf_59c91_13) (hts _ mJ7_copyOf_59c91_14) (hts _ mJ7_copyOf_59c91_15) hN hB 0 1 rfl rfl (nI_pos (n := 0) (by omega)) (nI_pos (n := 0) (by omega)) (nI_pos (n := m5790) (by omega)) (by rw [show (0 : Int32).toNatClampNeg = 0 from nI_clamp (n := 0) (by omega), show ((nI m5790) : Int32).toNatClampNeg = m5790 from nI_clamp (n := m5790) (by omega)]; omega) (by rw [show (0 : Int32).toNatClampNeg = 0 from nI_clamp (n := 0) (by omega), show ((nI m5790) : Int32).toNatClampNeg = m5790 from nI_clamp (n := m5790) (by omega)]; omega) (.inr ⟨rfl, List.mem_of_getElem? (i := 0) rfl⟩) (Nat.le_of_ble_eq_true rfl) (Nat.le_of_ble_eq_true rfl) dJ7_copyOf_59c91_28 (fun H locs hB => ?_)
    generalize va_cpy _ _ _ _ _ = g5791 at hB
    have hB : Bx B0 D _ [(v, .inl (cs 0, 600, .inl g)), (q5789, .inl (cs 0, n, .inl g5791))] [q5789] _ _ := hB
    refine lv_aload_n hx hb dJ7_copyOf_59c91_31 rfl (lv_at hl 0 rfl) ?_
    have hL : OkL B0 _ := hB.2.2.2.2.2
    refine W.know (fun hg => ?_)
    rw [hH0] at hg
    exact en_r hx hb hr hlocks (by first | exact Or.inl ⟨_, rfl⟩ | exact Or.inr ⟨_, rfl⟩) hL (show 1 ≤ 1 by omega) (show (0 + n) ≤ 600 by omega) dJ7_copyOf_59c91_32 (⟨heq5789, (by have h1 := hg.2.1; have h2 := (hB.1 1 _ rfl).lt; have h2 : q5789 < _ := h2; omega), (fun x hx9 => hB.2.2.2.1 x (by omega) (by simp; omega)), _, hB.1 1 _ rfl⟩)
  · have c5788 : n = 600 := (nI_eq (a := n) (b := 600) (by omega) (by omega)).mp c5788
    refine lv_aload_n hx hb dJ7_copyOf_59c91_6 rfl (lv_at hl 0 rfl) ?_
    refine nw_cl hx hb (hml.trans hl.1.symm) hown (hts _ mJ7_copyOf_59c91_1) (hts _ mJ7_copyOf_59c91_2) (hts _ mJ7_copyOf_59c91_3) (hts _ mJ7_copyOf_59c91_4) (hts _ mJ7_copyOf_59c91_5) hN (hP 0 _ rfl) (Nat.le_of_ble_eq_true rfl) (Nat.le_of_ble_eq_true rfl) (show 0 + 1 ≤ 1 by omega) (show 0 + 600 ≤ 600 by omega) dJ7_copyOf_59c91_7 (fun q5792 H heq5792 hzq5792 hoq5792 hatq5792 => ?_)
    refine nw_ca hx hb hown (hts _ mJ7_copyOf_59c91_6) hN hatq5792 dJ7_copyOf_59c91_10 ?_
    refine W.know (fun hg => ?_)
    rw [hH0] at hg
    obtain rfl : n = 600 := c5788
    exact en_r hx hb hr hlocks (by first | exact Or.inl ⟨_, rfl⟩ | exact Or.inr ⟨_, rfl⟩) hL (show 1 ≤ 1 by omega) (show (0 + 600) ≤ 600 by omega) dJ7_copyOf_59c91_13 (⟨heq5792, hzq5792, hoq5792, _, hatq5792⟩)
theorem mX0_init_1 : (.methodLink RX0 1 objectInit : Cond) ∈ wsX0_init := List.mem_of_getElem? (i := 1) (by decide +kernel)
theorem mX0_init_2 : (.instanceMethod objectInit : Cond) ∈ wsX0_init := List.mem_of_getElem? (i := 2) (by decide +kernel)
theorem mX0_init_3 : (.code objectInit ⟨#[0xb1]⟩ 1 none : Cond) ∈ wsX0_init := List.mem_of_getElem? (i := 3) (by decide +kernel)
theorem mX0_init_4 : (.arrayClass .int : Cond) ∈ wsX0_init := List.mem_of_getElem? (i := 4) (by decide +kernel)
theorem mX0_init_5 : (.fieldLink RX0 9 "OneBeat$Formula" "stack" "[I" : Cond) ∈ wsX0_init := List.mem_of_getElem? (i := 5) (by decide +kernel)
theorem iX0_init_0 : ∀ w ∈ wsX00, w ∈ wsX0_init := fun w h => List.mem_of_mem_drop (List.mem_of_mem_take ((show wsX00 = (wsX0_init.drop 25).take 2 by decide +kernel) ▸ h))
theorem hdJ7_copyOf_59c91_o : yJ7_copyOf_59c91.cls ≠ "java/lang/invoke/MethodHandle" ∧ yJ7_copyOf_59c91.cls ≠ "java/lang/invoke/VarHandle" ∧ (parseMethodDescriptor yJ7_copyOf_59c91.desc).map (fun d => d.parameters.length) = some 2 := by decide +kernel
theorem mX0_init_6 : (.fieldLink RX0 19 "OneBeat$Formula" "codes" "[I" : Cond) ∈ wsX0_init := List.mem_of_getElem? (i := 6) (by decide +kernel)
set_option maxHeartbeats 4000000 in
set_option maxRecDepth 100000 in
theorem c_X0_init {l : Launch} {D : va_G} {cs : Nat → ClassId} {B0 T : Nat} {κ : KM} {H0 : Heap} (hT : WT B0 D cs T κ H0) {w : Nat} (hfw : (κ w).1 = 0) (hwb : B0 ≤ w) (hwa : va_at D vwCl (w, .inr (0, [.null, .null])) H0) {v n : Nat} (hv : T2 κ v 17 10) (hn : n ≤ 600) : KC l yX0_init wsX0_init 2 82 2 616 D cs B0 H0 [.ref w, .ref v, .int (nI n)] (Qv (fun H => ∃ κ1, KX κ κ1 ∧ WT B0 D cs T κ1 H ∧ Fr B0 [] κ H0 H ∧ T2 κ1 w 1 15)) := by
  refine KC.of cX0_init 3 none (by decide) rfl (Nat.le_of_ble_eq_true rfl) ?_
  intro p e s m below meth c ls hx hb hr hml hown hts hlocks hin hN hE hH0 hl
  have hown : s.vm.findClass RX0 = some m.cls := hown
  have hl : lv_has ls 3 [(0, .ref w), (1, .ref v), (2, .int (nI n))] := hl
  have hL : OkL B0 [] := OkL.nil
  have hF : Fr B0 [] κ H0 H0 := Fr.rf
  have hP : va_P D vwCl [(w, .inr (0, [.null, .null]))] _ := va_P.cons hwa va_P.nil
  have hb0 : B0 ≤ H0.size := Nat.le_trans hwb (Nat.le_of_lt hwa.lt)
  refine lv_aload_n hx hb dX0_init_0 rfl (lv_at hl 0 rfl) ?_
  refine W.objInit hx hb hown (hts _ mX0_init_1) (hts _ mX0_init_2) (hts _ mX0_init_3) rfl (by rw [hml]; exact hl.1) rfl dX0_init_1 (Nat.le_of_ble_eq_true rfl) (Nat.le_of_ble_eq_true rfl) ?_
  refine W.eq (g2 := F0 m 4 ls []) rfl ?_
  refine lv_aload_n hx hb dX0_init_4 rfl (lv_at hl 0 rfl) ?_
  refine lv_bipush (v := 16) hx hb dX0_init_5 (by decide) ?_
  have hB : Bx B0 D _ [(w, .inr (0, [.null, .null]))] [] _ _ := Bx.of (fun a => (κ a).1) hL hP (fa_c hwb fa_n) (by simp only [List.map_cons, List.map_nil, hfw]; decide)
  refine nw_a (atype := .int) (ty := .int) (N' := 16) (a0 := (16, .inl (fun _ => 0))) 0 hN rfl hx hb (hts _ mX0_init_4) rfl (fun _ => rfl) (nI_pos (n := 16) (by omega)) (nI_clamp (n := 16) (by omega)) (show 16 * _ ≤ _ by simp only [componentBytes]; omega) (show 0 + 1 ≤ 2 by omega) (show 0 + 16 ≤ 616 by omega) dX0_init_7 (fun q5793 H heq5793 hzq5793 hoq5793 hatq5793 => ?_)
  have hgeq5793 : _ ≤ q5793 := Nat.le_trans hB.2.2.1 (Nat.le_of_eq heq5793.symm)
  have hbq5793 : B0 ≤ q5793 := Nat.le_trans hb0 hgeq5793
  have hfq5793 : (κ q5793).1 = 0 := hT.fresh hgeq5793
  have hB := hB.nwm heq5793 hzq5793 hoq5793 hatq5793 hb0
  have hB : Bx B0 D _ [(w, .inr (0, [.null, .null])), (q5793, .inl (cs 0, 16, .inl (fun _ => 0)))] [q5793] _ _ := hB
  refine b_putF (D := D) (ci := 0) (v := .ref q5793) (ty := .array .int) (C := RX0) (T := TX0) (N := 2) hx hb hts iX0_init_0 tyX0 tyX0_ok nmX0 hown hN hB 0 rfl rfl 1 (by decide) (hts _ mX0_init_5) (fun _ h9 => h9) rfl hin rfl (by decide +kernel) rfl rfl (Nat.le_of_ble_eq_true rfl) (.inl rfl) dX0_init_9 (fun H locs hB => ?_)
  have hB : Bx B0 D _ [(w, .inr (0, [.null, .ref q5793])), (q5793, .inl (cs 0, 16, .inl (fun _ => 0)))] [w, q5793] _ _ := hB
  refine lv_aload_n hx hb dX0_init_12 rfl (lv_at hl 0 rfl) ?_
  refine lv_aload_n hx hb dX0_init_13 rfl (lv_at hl 1 rfl) ?_
  refine lv_iload_n hx hb dX0_init_14 rfl (lv_at hl 2 rfl) ?_
  refine lv_if_ge (tgt := 22) hx hb dX0_init_15 (by decide) (fun c5794 => ?_) (fun c5794 => ?_)
  · have c5794 : 0 ≤ n := (nI_leI (a := 0) (b := n) (by omega) (by omega)).mp c5794
    refine lv_iload_n hx hb dX0_init_22 rfl (lv_at hl 2 rfl) ?_
    obtain ⟨hb5795, e5795, hat5795, hk5795⟩ := hT.o17 hv.1
    obtain ⟨g5795, rfl⟩ := hk5795
    have hB : Bx B0 D _ [(w, .inr (0, [.null, .ref q5793])), (q5793, .inl (cs 0, 16, .inl (fun _ => 0))), (v, .inl (cs 0, 600, .inl g5795))] [w, q5793] _ _ := hB.more hat5795 hb5795 (fa_c (ne_c hfw hv.1 (by decide))  (fa_c (nw_ne hat5795 hgeq5793) fa_n)) (fa_c (ne_c hfw hv.1 (by decide))  (fa_c (nw_ne hat5795 hgeq5793) fa_n))
    have hL : OkL B0 _ := hB.2.2.2.2.2
    refine cs_r (As := [.ref v, .int (nI n)]) (rest := [.ref w]) ⟨hx, hb, hml, hown, hts⟩ (c_J7_copyOf_59c91 (v := v) (n := n) hb5795 (hB.1 2 _ rfl) (by omega)) (va_cwS 2 hts gX0_init_J7_copyOf_59c91 rfl rfl rfl hdJ7_copyOf_59c91_o ⟨Nat.le_of_ble_eq_true rfl, Nat.le_of_ble_eq_true rfl⟩) hN hE hL rfl rfl hl.1 (Nat.le_of_ble_eq_true rfl) dX0_init_23 (show 1 + 1 ≤ 2 by omega) (show (0 + 16) + 600 ≤ 616 by omega) (fun q5796 H1 locs hL hqq5796 => ?_)
    obtain ⟨heq5796, hzq5796, hoq5796, gq5796, hatq5796⟩ := hqq5796
    have hB := hB.lc hL
    have hgeq5796 : _ ≤ q5796 := Nat.le_trans hB.2.2.1 (Nat.le_of_eq heq5796.symm)
    have hbq5796 : B0 ≤ q5796 := Nat.le_trans hb0 hgeq5796
    have hfq5796 : (κ q5796).1 = 0 := hT.fresh hgeq5796
    have hB := hB.nwm heq5796 hzq5796 hoq5796 hatq5796 hb0
    have hB : Bx B0 D _ [(w, .inr (0, [.null, .ref q5793])), (q5793, .inl (cs 0, 16, .inl (fun _ => 0))), (v, .inl (cs 0, 600, .inl g5795)), (q5796, .inl (cs 0, n, .inl gq5796))] [q5796, w, q5793] _ _ := hB
    refine b_putF (D := D) (ci := 0) (v := .ref q5796) (ty := .array .int) (C := RX0) (T := TX0) (N := 2) hx hb hts iX0_init_0 tyX0 tyX0_ok nmX0 hown hN hB 0 rfl rfl 0 (by decide) (hts _ mX0_init_6) (fun _ h9 => h9) rfl hin rfl (by decide +kernel) rfl rfl (Nat.le_of_ble_eq_true rfl) (.inr ⟨rfl, List.mem_of_getElem? (i := 1) rfl⟩) dX0_init_26 (fun H locs hB => ?_)
    have hB : Bx B0 D _ [(w, .inr (0, [.ref q5796, .ref q5793])), (q5793, .inl (cs 0, 16, .inl (fun _ => 0))), (v, .inl (cs 0, 600, .inl g5795)), (q5796, .inl (cs 0, n, .inl gq5796))] [q5796, w, q5793] _ _ := hB
    obtain ⟨κ5797, hκ5797⟩ : ∃ κq : KM, κq = (ku (ku (ku κ w (1, 15, 0, 0)) q5793 (22, 16, 0, 0)) q5796 (21, 15, 0, 0)) := ⟨_, rfl⟩
    have hx5797 : KX κ κ5797 := by rw [hκ5797]; exact (((KX.ku hfw).tr (KX.ku (by rw [ku_n (fun e9 => absurd (hB.2.1.1 1 0 _ _ rfl rfl e9) (by decide))]; exact hfq5793))).tr (KX.ku (by rw [ku_n (fun e9 => absurd (hB.2.1.1 3 1 _ _ rfl rfl e9) (by decide)), ku_n (fun e9 => absurd (hB.2.1.1 3 0 _ _ rfl rfl e9) (by decide))]; exact hfq5796)))
    have ew : κ5797 w = (1, 15, 0, 0) := by rw [hκ5797, ku_n (fun e9 => absurd (hB.2.1.1 0 3 _ _ rfl rfl e9) (by decide)), ku_n (fun e9 => absurd (hB.2.1.1 0 1 _ _ rfl rfl e9) (by decide)), ku_a]
    have hw : T2 κ5797 w 1 15 := ⟨by rw [ew], by rw [ew]⟩
    have eq5793 : κ5797 q5793 = (22, 16, 0, 0) := by rw [hκ5797, ku_n (fun e9 => absurd (hB.2.1.1 1 3 _ _ rfl rfl e9) (by decide)), ku_a]
    have hq5793 : T2 κ5797 q5793 22 16 := ⟨by rw [eq5793], by rw [eq5793]⟩
    have eq5796 : κ5797 q5796 = (21, 15, 0, 0) := by rw [hκ5797, ku_a]
    have hq5796 : T2 κ5797 q5796 21 15 := ⟨by rw [eq5796], by rw [eq5796]⟩
    have hx9 := hx5797
    have hT : WT B0 D cs T κ5797 _ := hT.closeN hB hx5797 (fun a9 h9 => by rw [hκ5797, ku_n (fun e9 => h9 (by rw [e9]; exact List.mem_of_getElem? (i := 0) rfl)), ku_n (fun e9 => h9 (by rw [e9]; exact List.mem_of_getElem? (i := 2) rfl)), ku_n (fun e9 => h9 (by rw [e9]; exact List.mem_of_getElem? (i := 1) rfl))]) ⟨⟨3, _, rfl, ok_21 hq5796.1 ⟨_, _, rfl, (by omega)⟩⟩, ⟨⟨0, _, rfl, ok_1 hw.1 ⟨_, _, rfl, hq5796, hq5793⟩⟩, ⟨⟨1, _, rfl, ok_22 hq5793.1 ⟨_, rfl⟩⟩, trivial⟩⟩⟩
    have hF : Fr B0 [] κ H0 _ := hF.closeN hB (fa_c (fun h9 => absurd hfq5796 h9) (fa_c (fun h9 => absurd hfw h9) (fa_c (fun h9 => absurd hfq5793 h9) fa_n)))
    have hL : OkL B0 _ := hB.2.2.2.2.2
    have hKF : KF κ κ5797 := hx5797.f
    have hKX : KX κ κ5797 := hx5797
    have hv := (hx5797.f.t2 hv (by decide))
    have hP : va_P D vwCl [(w, .inr (0, [.ref q5796, .ref q5793])), (q5793, .inl (cs 0, 16, .inl (fun _ => 0))), (v, .inl (cs 0, 600, .inl g5795)), (q5796, .inl (cs 0, n, .inl gq5796))] _ := hB.1
    exact en_v hx hb hr hlocks hL (show 2 ≤ 2 by omega) (show ((0 + 16) + 600) ≤ 616 by omega) dX0_init_29 (⟨_, hKX, hT, hF, hw⟩)
  · have c5794 : ¬ 0 ≤ n := fun h9 => c5794 ((nI_leI (a := 0) (b := n) (by omega) (by omega)).mpr h9)
    refine lv_iconst (v := 0) hx hb dX0_init_18 (by decide) ?_
    refine lv_goto (tgt := 23) hx hb dX0_init_19 (by decide) ?_
    obtain ⟨hb5798, e5798, hat5798, hk5798⟩ := hT.o17 hv.1
    obtain ⟨g5798, rfl⟩ := hk5798
    have hB : Bx B0 D _ [(w, .inr (0, [.null, .ref q5793])), (q5793, .inl (cs 0, 16, .inl (fun _ => 0))), (v, .inl (cs 0, 600, .inl g5798))] [w, q5793] _ _ := hB.more hat5798 hb5798 (fa_c (ne_c hfw hv.1 (by decide))  (fa_c (nw_ne hat5798 hgeq5793) fa_n)) (fa_c (ne_c hfw hv.1 (by decide))  (fa_c (nw_ne hat5798 hgeq5793) fa_n))
    have hL : OkL B0 _ := hB.2.2.2.2.2
    refine cs_r (As := [.ref v, .int 0]) (rest := [.ref w]) ⟨hx, hb, hml, hown, hts⟩ (c_J7_copyOf_59c91 (v := v) (n := 0) hb5798 (hB.1 2 _ rfl) (by omega)) (va_cwS 2 hts gX0_init_J7_copyOf_59c91 rfl rfl rfl hdJ7_copyOf_59c91_o ⟨Nat.le_of_ble_eq_true rfl, Nat.le_of_ble_eq_true rfl⟩) hN hE hL rfl rfl hl.1 (Nat.le_of_ble_eq_true rfl) dX0_init_23 (show 1 + 1 ≤ 2 by omega) (show (0 + 16) + 600 ≤ 616 by omega) (fun q5799 H1 locs hL hqq5799 => ?_)
    obtain ⟨heq5799, hzq5799, hoq5799, gq5799, hatq5799⟩ := hqq5799
    have hB := hB.lc hL
    have hgeq5799 : _ ≤ q5799 := Nat.le_trans hB.2.2.1 (Nat.le_of_eq heq5799.symm)
    have hbq5799 : B0 ≤ q5799 := Nat.le_trans hb0 hgeq5799
    have hfq5799 : (κ q5799).1 = 0 := hT.fresh hgeq5799
    have hB := hB.nwm heq5799 hzq5799 hoq5799 hatq5799 hb0
    have hB : Bx B0 D _ [(w, .inr (0, [.null, .ref q5793])), (q5793, .inl (cs 0, 16, .inl (fun _ => 0))), (v, .inl (cs 0, 600, .inl g5798)), (q5799, .inl (cs 0, 0, .inl gq5799))] [q5799, w, q5793] _ _ := hB
    refine b_putF (D := D) (ci := 0) (v := .ref q5799) (ty := .array .int) (C := RX0) (T := TX0) (N := 2) hx hb hts iX0_init_0 tyX0 tyX0_ok nmX0 hown hN hB 0 rfl rfl 0 (by decide) (hts _ mX0_init_6) (fun _ h9 => h9) rfl hin rfl (by decide +kernel) rfl rfl (Nat.le_of_ble_eq_true rfl) (.inr ⟨rfl, List.mem_of_getElem? (i := 1) rfl⟩) dX0_init_26 (fun H locs hB => ?_)
    have hB : Bx B0 D _ [(w, .inr (0, [.ref q5799, .ref q5793])), (q5793, .inl (cs 0, 16, .inl (fun _ => 0))), (v, .inl (cs 0, 600, .inl g5798)), (q5799, .inl (cs 0, 0, .inl gq5799))] [q5799, w, q5793] _ _ := hB
    obtain ⟨κ5800, hκ5800⟩ : ∃ κq : KM, κq = (ku (ku (ku κ w (1, 15, 0, 0)) q5793 (22, 16, 0, 0)) q5799 (21, 15, 0, 0)) := ⟨_, rfl⟩
    have hx5800 : KX κ κ5800 := by rw [hκ5800]; exact (((KX.ku hfw).tr (KX.ku (by rw [ku_n (fun e9 => absurd (hB.2.1.1 1 0 _ _ rfl rfl e9) (by decide))]; exact hfq5793))).tr (KX.ku (by rw [ku_n (fun e9 => absurd (hB.2.1.1 3 1 _ _ rfl rfl e9) (by decide)), ku_n (fun e9 => absurd (hB.2.1.1 3 0 _ _ rfl rfl e9) (by decide))]; exact hfq5799)))
    have ew : κ5800 w = (1, 15, 0, 0) := by rw [hκ5800, ku_n (fun e9 => absurd (hB.2.1.1 0 3 _ _ rfl rfl e9) (by decide)), ku_n (fun e9 => absurd (hB.2.1.1 0 1 _ _ rfl rfl e9) (by decide)), ku_a]
    have hw : T2 κ5800 w 1 15 := ⟨by rw [ew], by rw [ew]⟩
    have eq5793 : κ5800 q5793 = (22, 16, 0, 0) := by rw [hκ5800, ku_n (fun e9 => absurd (hB.2.1.1 1 3 _ _ rfl rfl e9) (by decide)), ku_a]
    have hq5793 : T2 κ5800 q5793 22 16 := ⟨by rw [eq5793], by rw [eq5793]⟩
    have eq5799 : κ5800 q5799 = (21, 15, 0, 0) := by rw [hκ5800, ku_a]
    have hq5799 : T2 κ5800 q5799 21 15 := ⟨by rw [eq5799], by rw [eq5799]⟩
    have hx9 := hx5800
    have hT : WT B0 D cs T κ5800 _ := hT.closeN hB hx5800 (fun a9 h9 => by rw [hκ5800, ku_n (fun e9 => h9 (by rw [e9]; exact List.mem_of_getElem? (i := 0) rfl)), ku_n (fun e9 => h9 (by rw [e9]; exact List.mem_of_getElem? (i := 2) rfl)), ku_n (fun e9 => h9 (by rw [e9]; exact List.mem_of_getElem? (i := 1) rfl))]) ⟨⟨3, _, rfl, ok_21 hq5799.1 ⟨_, _, rfl, (by omega)⟩⟩, ⟨⟨0, _, rfl, ok_1 hw.1 ⟨_, _, rfl, hq5799, hq5793⟩⟩, ⟨⟨1, _, rfl, ok_22 hq5793.1 ⟨_, rfl⟩⟩, trivial⟩⟩⟩
    have hF : Fr B0 [] κ H0 _ := hF.closeN hB (fa_c (fun h9 => absurd hfq5799 h9) (fa_c (fun h9 => absurd hfw h9) (fa_c (fun h9 => absurd hfq5793 h9) fa_n)))
    have hL : OkL B0 _ := hB.2.2.2.2.2
    have hKF : KF κ κ5800 := hx5800.f
    have hKX : KX κ κ5800 := hx5800
    have hv := (hx5800.f.t2 hv (by decide))
    have hP : va_P D vwCl [(w, .inr (0, [.ref q5799, .ref q5793])), (q5793, .inl (cs 0, 16, .inl (fun _ => 0))), (v, .inl (cs 0, 600, .inl g5798)), (q5799, .inl (cs 0, 0, .inl gq5799))] _ := hB.1
    exact en_v hx hb hr hlocks hL (show 2 ≤ 2 by omega) (show ((0 + 16) + 600) ≤ 616 by omega) dX0_init_29 (⟨_, hKX, hT, hF, hw⟩)
theorem mX6_init_1 : (.methodLink RX6 1 objectInit : Cond) ∈ wsX6_init := List.mem_of_getElem? (i := 1) (by decide +kernel)
theorem mX6_init_2 : (.instanceMethod objectInit : Cond) ∈ wsX6_init := List.mem_of_getElem? (i := 2) (by decide +kernel)
theorem mX6_init_3 : (.code objectInit ⟨#[0xb1]⟩ 1 none : Cond) ∈ wsX6_init := List.mem_of_getElem? (i := 3) (by decide +kernel)
theorem mX6_init_4 : (.arrayClass .boolean : Cond) ∈ wsX6_init := List.mem_of_getElem? (i := 4) (by decide +kernel)
theorem mX6_init_5 : (.fieldLink RX6 9 "OneBeat$Setup" "isClockTold" "[Z" : Cond) ∈ wsX6_init := List.mem_of_getElem? (i := 5) (by decide +kernel)
theorem iX6_init_6 : ∀ w ∈ wsX60, w ∈ wsX6_init := fun w h => List.mem_of_mem_drop (List.mem_of_mem_take ((show wsX60 = (wsX6_init.drop 11).take 8 by decide +kernel) ▸ h))
theorem mX6_init_6 : (.arrayClass .int : Cond) ∈ wsX6_init := List.mem_of_getElem? (i := 6) (by decide +kernel)
theorem mX6_init_7 : (.fieldLink RX6 13 "OneBeat$Setup" "offset" "[I" : Cond) ∈ wsX6_init := List.mem_of_getElem? (i := 7) (by decide +kernel)
theorem mX6_init_8 : (.fieldLink RX6 17 "OneBeat$Setup" "drift" "[I" : Cond) ∈ wsX6_init := List.mem_of_getElem? (i := 8) (by decide +kernel)
theorem mX6_init_9 : (.fieldLink RX6 20 "OneBeat$Setup" "delay" "[I" : Cond) ∈ wsX6_init := List.mem_of_getElem? (i := 9) (by decide +kernel)
theorem mX6_init_10 : (.fieldLink RX6 23 "OneBeat$Setup" "players" "I" : Cond) ∈ wsX6_init := List.mem_of_getElem? (i := 10) (by decide +kernel)
set_option maxHeartbeats 4000000 in
set_option maxRecDepth 100000 in
theorem c_X6_init {l : Launch} {D : va_G} {cs : Nat → ClassId} {B0 T : Nat} {κ : KM} {H0 : Heap} (hT : WT B0 D cs T κ H0) {w : Nat} (hfw : (κ w).1 = 0) (hwb : B0 ≤ w) (hwa : va_at D vwCl (w, .inr (6, [.int 0, .int 0, .int 0, .null, .null, .null, .null, .null])) H0) {n : Nat} (hn : n ≤ 8) : KC l yX6_init wsX6_init 1 20 4 88 D cs B0 H0 [.ref w, .int (nI n)] (Qv (fun H => ∃ κ1, KX κ κ1 ∧ WT B0 D cs T κ1 H ∧ Fr B0 [] κ H0 H ∧ T2 κ1 w 7 11 ∧ κ1 w = (7, 11, 0, 0))) := by
  refine KC.of cX6_init 2 none (by decide) rfl (Nat.le_of_ble_eq_true rfl) ?_
  intro p e s m below meth c ls hx hb hr hml hown hts hlocks hin hN hE hH0 hl
  have hown : s.vm.findClass RX6 = some m.cls := hown
  have hl : lv_has ls 2 [(0, .ref w), (1, .int (nI n))] := hl
  have hL : OkL B0 [] := OkL.nil
  have hF : Fr B0 [] κ H0 H0 := Fr.rf
  have hP : va_P D vwCl [(w, .inr (6, [.int 0, .int 0, .int 0, .null, .null, .null, .null, .null]))] _ := va_P.cons hwa va_P.nil
  have hb0 : B0 ≤ H0.size := Nat.le_trans hwb (Nat.le_of_lt hwa.lt)
  refine lv_aload_n hx hb dX6_init_0 rfl (lv_at hl 0 rfl) ?_
  refine W.objInit hx hb hown (hts _ mX6_init_1) (hts _ mX6_init_2) (hts _ mX6_init_3) rfl (by rw [hml]; exact hl.1) rfl dX6_init_1 (Nat.le_of_ble_eq_true rfl) (Nat.le_of_ble_eq_true rfl) ?_
  refine W.eq (g2 := F0 m 4 ls []) rfl ?_
  refine lv_aload_n hx hb dX6_init_4 rfl (lv_at hl 0 rfl) ?_
  refine lv_bipush (v := 8) hx hb dX6_init_5 (by decide) ?_
  have hB : Bx B0 D _ [(w, .inr (6, [.int 0, .int 0, .int 0, .null, .null, .null, .null, .null]))] [] _ _ := Bx.of (fun a => (κ a).1) hL hP (fa_c hwb fa_n) (by simp only [List.map_cons, List.map_nil, hfw]; decide)
  refine nw_a (atype := .boolean) (ty := .boolean) (N' := 8) (a0 := (8, .inl (fun _ => 0))) 2 hN rfl hx hb (hts _ mX6_init_4) rfl (fun _ => rfl) (nI_pos (n := 8) (by omega)) (nI_clamp (n := 8) (by omega)) (show 8 * _ ≤ _ by simp only [componentBytes]; omega) (show 0 + 1 ≤ 4 by omega) (show 0 + 8 ≤ 88 by omega) dX6_init_7 (fun q5801 H heq5801 hzq5801 hoq5801 hatq5801 => ?_)
  have hgeq5801 : _ ≤ q5801 := Nat.le_trans hB.2.2.1 (Nat.le_of_eq heq5801.symm)
  have hbq5801 : B0 ≤ q5801 := Nat.le_trans hb0 hgeq5801
  have hfq5801 : (κ q5801).1 = 0 := hT.fresh hgeq5801
  have hB := hB.nwm heq5801 hzq5801 hoq5801 hatq5801 hb0
  have hB : Bx B0 D _ [(w, .inr (6, [.int 0, .int 0, .int 0, .null, .null, .null, .null, .null])), (q5801, .inl (cs 2, 8, .inl (fun _ => 0)))] [q5801] _ _ := hB
  refine b_putF (D := D) (ci := 6) (v := .ref q5801) (ty := .array .boolean) (C := RX6) (T := TX6) (N := 8) hx hb hts iX6_init_6 tyX6 tyX6_ok nmX6 hown hN hB 0 rfl rfl 4 (by decide) (hts _ mX6_init_5) (fun _ h9 => h9) rfl hin rfl (by decide +kernel) rfl rfl (Nat.le_of_ble_eq_true rfl) (.inl rfl) dX6_init_9 (fun H locs hB => ?_)
  have hB : Bx B0 D _ [(w, .inr (6, [.int 0, .int 0, .int 0, .null, .ref q5801, .null, .null, .null])), (q5801, .inl (cs 2, 8, .inl (fun _ => 0)))] [w, q5801] _ _ := hB
  refine lv_aload_n hx hb dX6_init_12 rfl (lv_at hl 0 rfl) ?_
  refine lv_bipush (v := 8) hx hb dX6_init_13 (by decide) ?_
  refine nw_a (atype := .int) (ty := .int) (N' := 8) (a0 := (8, .inl (fun _ => 0))) 0 hN rfl hx hb (hts _ mX6_init_6) rfl (fun _ => rfl) (nI_pos (n := 8) (by omega)) (nI_clamp (n := 8) (by omega)) (show 8 * _ ≤ _ by simp only [componentBytes]; omega) (show 1 + 1 ≤ 4 by omega) (show (0 + 8) + 8 ≤ 88 by omega) dX6_init_15 (fun q5802 H heq5802 hzq5802 hoq5802 hatq5802 => ?_)
  have hgeq5802 : _ ≤ q5802 := Nat.le_trans hB.2.2.1 (Nat.le_of_eq heq5802.symm)
  have hbq5802 : B0 ≤ q5802 := Nat.le_trans hb0 hgeq5802
  have hfq5802 : (κ q5802).1 = 0 := hT.fresh hgeq5802
  have hB := hB.nwm heq5802 hzq5802 hoq5802 hatq5802 hb0
  have hB : Bx B0 D _ [(w, .inr (6, [.int 0, .int 0, .int 0, .null, .ref q5801, .null, .null, .null])), (q5801, .inl (cs 2, 8, .inl (fun _ => 0))), (q5802, .inl (cs 0, 8, .inl (fun _ => 0)))] [q5802, w, q5801] _ _ := hB
  refine b_putF (D := D) (ci := 6) (v := .ref q5802) (ty := .array .int) (C := RX6) (T := TX6) (N := 8) hx hb hts iX6_init_6 tyX6 tyX6_ok nmX6 hown hN hB 0 rfl rfl 5 (by decide) (hts _ mX6_init_7) (fun _ h9 => h9) rfl hin rfl (by decide +kernel) rfl rfl (Nat.le_of_ble_eq_true rfl) (.inr ⟨rfl, List.mem_of_getElem? (i := 1) rfl⟩) dX6_init_17 (fun H locs hB => ?_)
  have hB : Bx B0 D _ [(w, .inr (6, [.int 0, .int 0, .int 0, .null, .ref q5801, .ref q5802, .null, .null])), (q5801, .inl (cs 2, 8, .inl (fun _ => 0))), (q5802, .inl (cs 0, 8, .inl (fun _ => 0)))] [q5802, w, q5801] _ _ := hB
  refine lv_aload_n hx hb dX6_init_20 rfl (lv_at hl 0 rfl) ?_
  refine lv_bipush (v := 8) hx hb dX6_init_21 (by decide) ?_
  refine nw_a (atype := .int) (ty := .int) (N' := 8) (a0 := (8, .inl (fun _ => 0))) 0 hN rfl hx hb (hts _ mX6_init_6) rfl (fun _ => rfl) (nI_pos (n := 8) (by omega)) (nI_clamp (n := 8) (by omega)) (show 8 * _ ≤ _ by simp only [componentBytes]; omega) (show 2 + 1 ≤ 4 by omega) (show ((0 + 8) + 8) + 8 ≤ 88 by omega) dX6_init_23 (fun q5803 H heq5803 hzq5803 hoq5803 hatq5803 => ?_)
  have hgeq5803 : _ ≤ q5803 := Nat.le_trans hB.2.2.1 (Nat.le_of_eq heq5803.symm)
  have hbq5803 : B0 ≤ q5803 := Nat.le_trans hb0 hgeq5803
  have hfq5803 : (κ q5803).1 = 0 := hT.fresh hgeq5803
  have hB := hB.nwm heq5803 hzq5803 hoq5803 hatq5803 hb0
  have hB : Bx B0 D _ [(w, .inr (6, [.int 0, .int 0, .int 0, .null, .ref q5801, .ref q5802, .null, .null])), (q5801, .inl (cs 2, 8, .inl (fun _ => 0))), (q5802, .inl (cs 0, 8, .inl (fun _ => 0))), (q5803, .inl (cs 0, 8, .inl (fun _ => 0)))] [q5803, q5802, w, q5801] _ _ := hB
  refine b_putF (D := D) (ci := 6) (v := .ref q5803) (ty := .array .int) (C := RX6) (T := TX6) (N := 8) hx hb hts iX6_init_6 tyX6 tyX6_ok nmX6 hown hN hB 0 rfl rfl 6 (by decide) (hts _ mX6_init_8) (fun _ h9 => h9) rfl hin rfl (by decide +kernel) rfl rfl (Nat.le_of_ble_eq_true rfl) (.inr ⟨rfl, List.mem_of_getElem? (i := 2) rfl⟩) dX6_init_25 (fun H locs hB => ?_)
  have hB : Bx B0 D _ [(w, .inr (6, [.int 0, .int 0, .int 0, .null, .ref q5801, .ref q5802, .ref q5803, .null])), (q5801, .inl (cs 2, 8, .inl (fun _ => 0))), (q5802, .inl (cs 0, 8, .inl (fun _ => 0))), (q5803, .inl (cs 0, 8, .inl (fun _ => 0)))] [q5803, q5802, w, q5801] _ _ := hB
  refine lv_aload_n hx hb dX6_init_28 rfl (lv_at hl 0 rfl) ?_
  refine lv_bipush (v := 64) hx hb dX6_init_29 (by decide) ?_
  refine nw_a (atype := .int) (ty := .int) (N' := 64) (a0 := (64, .inl (fun _ => 0))) 0 hN rfl hx hb (hts _ mX6_init_6) rfl (fun _ => rfl) (nI_pos (n := 64) (by omega)) (nI_clamp (n := 64) (by omega)) (show 64 * _ ≤ _ by simp only [componentBytes]; omega) (show 3 + 1 ≤ 4 by omega) (show (((0 + 8) + 8) + 8) + 64 ≤ 88 by omega) dX6_init_31 (fun q5804 H heq5804 hzq5804 hoq5804 hatq5804 => ?_)
  have hgeq5804 : _ ≤ q5804 := Nat.le_trans hB.2.2.1 (Nat.le_of_eq heq5804.symm)
  have hbq5804 : B0 ≤ q5804 := Nat.le_trans hb0 hgeq5804
  have hfq5804 : (κ q5804).1 = 0 := hT.fresh hgeq5804
  have hB := hB.nwm heq5804 hzq5804 hoq5804 hatq5804 hb0
  have hB : Bx B0 D _ [(w, .inr (6, [.int 0, .int 0, .int 0, .null, .ref q5801, .ref q5802, .ref q5803, .null])), (q5801, .inl (cs 2, 8, .inl (fun _ => 0))), (q5802, .inl (cs 0, 8, .inl (fun _ => 0))), (q5803, .inl (cs 0, 8, .inl (fun _ => 0))), (q5804, .inl (cs 0, 64, .inl (fun _ => 0)))] [q5804, q5803, q5802, w, q5801] _ _ := hB
  refine b_putF (D := D) (ci := 6) (v := .ref q5804) (ty := .array .int) (C := RX6) (T := TX6) (N := 8) hx hb hts iX6_init_6 tyX6 tyX6_ok nmX6 hown hN hB 0 rfl rfl 7 (by decide) (hts _ mX6_init_9) (fun _ h9 => h9) rfl hin rfl (by decide +kernel) rfl rfl (Nat.le_of_ble_eq_true rfl) (.inr ⟨rfl, List.mem_of_getElem? (i := 3) rfl⟩) dX6_init_33 (fun H locs hB => ?_)
  have hB : Bx B0 D _ [(w, .inr (6, [.int 0, .int 0, .int 0, .null, .ref q5801, .ref q5802, .ref q5803, .ref q5804])), (q5801, .inl (cs 2, 8, .inl (fun _ => 0))), (q5802, .inl (cs 0, 8, .inl (fun _ => 0))), (q5803, .inl (cs 0, 8, .inl (fun _ => 0))), (q5804, .inl (cs 0, 64, .inl (fun _ => 0)))] [q5804, q5803, q5802, w, q5801] _ _ := hB
  refine lv_aload_n hx hb dX6_init_36 rfl (lv_at hl 0 rfl) ?_
  refine lv_iload_n hx hb dX6_init_37 rfl (lv_at hl 1 rfl) ?_
  refine b_putF (D := D) (ci := 6) (v := .int (nI n)) (ty := .int) (C := RX6) (T := TX6) (N := 8) hx hb hts iX6_init_6 tyX6 tyX6_ok nmX6 hown hN hB 0 rfl rfl 0 (by decide) (hts _ mX6_init_10) (fun _ h9 => h9) rfl hin rfl (by decide +kernel) rfl rfl (Nat.le_of_ble_eq_true rfl) (.inr ⟨rfl, List.mem_of_getElem? (i := 3) rfl⟩) dX6_init_38 (fun H locs hB => ?_)
  have hB : Bx B0 D _ [(w, .inr (6, [.int (nI n), .int 0, .int 0, .null, .ref q5801, .ref q5802, .ref q5803, .ref q5804])), (q5801, .inl (cs 2, 8, .inl (fun _ => 0))), (q5802, .inl (cs 0, 8, .inl (fun _ => 0))), (q5803, .inl (cs 0, 8, .inl (fun _ => 0))), (q5804, .inl (cs 0, 64, .inl (fun _ => 0)))] [q5804, q5803, q5802, w, q5801] _ _ := hB
  obtain ⟨κ5805, hκ5805⟩ : ∃ κq : KM, κq = (ku (ku (ku (ku (ku κ w (7, 11, 0, 0)) q5801 (18, 11, 0, 0)) q5802 (19, 11, 0, 0)) q5803 (19, 11, 0, 0)) q5804 (20, 11, 0, 0)) := ⟨_, rfl⟩
  have hx5805 : KX κ κ5805 := by rw [hκ5805]; exact (((((KX.ku hfw).tr (KX.ku (by rw [ku_n (fun e9 => absurd (hB.2.1.1 1 0 _ _ rfl rfl e9) (by decide))]; exact hfq5801))).tr (KX.ku (by rw [ku_n (fun e9 => absurd (hB.2.1.1 2 1 _ _ rfl rfl e9) (by decide)), ku_n (fun e9 => absurd (hB.2.1.1 2 0 _ _ rfl rfl e9) (by decide))]; exact hfq5802))).tr (KX.ku (by rw [ku_n (fun e9 => absurd (hB.2.1.1 3 2 _ _ rfl rfl e9) (by decide)), ku_n (fun e9 => absurd (hB.2.1.1 3 1 _ _ rfl rfl e9) (by decide)), ku_n (fun e9 => absurd (hB.2.1.1 3 0 _ _ rfl rfl e9) (by decide))]; exact hfq5803))).tr (KX.ku (by rw [ku_n (fun e9 => absurd (hB.2.1.1 4 3 _ _ rfl rfl e9) (by decide)), ku_n (fun e9 => absurd (hB.2.1.1 4 2 _ _ rfl rfl e9) (by decide)), ku_n (fun e9 => absurd (hB.2.1.1 4 1 _ _ rfl rfl e9) (by decide)), ku_n (fun e9 => absurd (hB.2.1.1 4 0 _ _ rfl rfl e9) (by decide))]; exact hfq5804)))
  have ew : κ5805 w = (7, 11, 0, 0) := by rw [hκ5805, ku_n (fun e9 => absurd (hB.2.1.1 0 4 _ _ rfl rfl e9) (by decide)), ku_n (fun e9 => absurd (hB.2.1.1 0 3 _ _ rfl rfl e9) (by decide)), ku_n (fun e9 => absurd (hB.2.1.1 0 2 _ _ rfl rfl e9) (by decide)), ku_n (fun e9 => absurd (hB.2.1.1 0 1 _ _ rfl rfl e9) (by decide)), ku_a]
  have hw : T2 κ5805 w 7 11 := ⟨by rw [ew], by rw [ew]⟩
  have eq5801 : κ5805 q5801 = (18, 11, 0, 0) := by rw [hκ5805, ku_n (fun e9 => absurd (hB.2.1.1 1 4 _ _ rfl rfl e9) (by decide)), ku_n (fun e9 => absurd (hB.2.1.1 1 3 _ _ rfl rfl e9) (by decide)), ku_n (fun e9 => absurd (hB.2.1.1 1 2 _ _ rfl rfl e9) (by decide)), ku_a]
  have hq5801 : T2 κ5805 q5801 18 11 := ⟨by rw [eq5801], by rw [eq5801]⟩
  have eq5802 : κ5805 q5802 = (19, 11, 0, 0) := by rw [hκ5805, ku_n (fun e9 => absurd (hB.2.1.1 2 4 _ _ rfl rfl e9) (by decide)), ku_n (fun e9 => absurd (hB.2.1.1 2 3 _ _ rfl rfl e9) (by decide)), ku_a]
  have hq5802 : T2 κ5805 q5802 19 11 := ⟨by rw [eq5802], by rw [eq5802]⟩
  have eq5803 : κ5805 q5803 = (19, 11, 0, 0) := by rw [hκ5805, ku_n (fun e9 => absurd (hB.2.1.1 3 4 _ _ rfl rfl e9) (by decide)), ku_a]
  have hq5803 : T2 κ5805 q5803 19 11 := ⟨by rw [eq5803], by rw [eq5803]⟩
  have eq5804 : κ5805 q5804 = (20, 11, 0, 0) := by rw [hκ5805, ku_a]
  have hq5804 : T2 κ5805 q5804 20 11 := ⟨by rw [eq5804], by rw [eq5804]⟩
  have hx9 := hx5805
  have hT : WT B0 D cs T κ5805 _ := hT.closeN hB hx5805 (fun a9 h9 => by rw [hκ5805, ku_n (fun e9 => h9 (by rw [e9]; exact List.mem_of_getElem? (i := 0) rfl)), ku_n (fun e9 => h9 (by rw [e9]; exact List.mem_of_getElem? (i := 1) rfl)), ku_n (fun e9 => h9 (by rw [e9]; exact List.mem_of_getElem? (i := 2) rfl)), ku_n (fun e9 => h9 (by rw [e9]; exact List.mem_of_getElem? (i := 4) rfl)), ku_n (fun e9 => h9 (by rw [e9]; exact List.mem_of_getElem? (i := 3) rfl))]) ⟨⟨4, _, rfl, ok_20 hq5804.1 ⟨_, rfl, (fun _ _ => ⟨0, Nat.zero_le _, rfl⟩)⟩⟩, ⟨⟨3, _, rfl, ok_19 hq5803.1 ⟨_, rfl⟩⟩, ⟨⟨2, _, rfl, ok_19 hq5802.1 ⟨_, rfl⟩⟩, ⟨⟨0, _, rfl, ok_7 hw.1 ⟨_, _, _, _, _, _, _, _, rfl, (by omega), (Or.inl rfl), (Or.inl (by rw [ew]; decide)), ⟨hq5801.1, by rw [ew]; exact hq5801.2⟩, ⟨hq5802.1, by rw [ew]; exact hq5802.2⟩, ⟨hq5803.1, by rw [ew]; exact hq5803.2⟩, ⟨hq5804.1, by rw [ew]; exact hq5804.2⟩⟩⟩, ⟨⟨1, _, rfl, ok_18 hq5801.1 ⟨_, rfl, (fun _ _ => Or.inl rfl)⟩⟩, trivial⟩⟩⟩⟩⟩
  have hF : Fr B0 [] κ H0 _ := hF.closeN hB (fa_c (fun h9 => absurd hfq5804 h9) (fa_c (fun h9 => absurd hfq5803 h9) (fa_c (fun h9 => absurd hfq5802 h9) (fa_c (fun h9 => absurd hfw h9) (fa_c (fun h9 => absurd hfq5801 h9) fa_n)))))
  have hL : OkL B0 _ := hB.2.2.2.2.2
  have hKF : KF κ κ5805 := hx5805.f
  have hKX : KX κ κ5805 := hx5805
  have hP : va_P D vwCl [(w, .inr (6, [.int (nI n), .int 0, .int 0, .null, .ref q5801, .ref q5802, .ref q5803, .ref q5804])), (q5801, .inl (cs 2, 8, .inl (fun _ => 0))), (q5802, .inl (cs 0, 8, .inl (fun _ => 0))), (q5803, .inl (cs 0, 8, .inl (fun _ => 0))), (q5804, .inl (cs 0, 64, .inl (fun _ => 0)))] _ := hB.1
  exact en_v hx hb hr hlocks hL (show 4 ≤ 4 by omega) (show ((((0 + 8) + 8) + 8) + 64) ≤ 88 by omega) dX6_init_41 (⟨_, hKX, hT, hF, hw, ew⟩)
theorem mX5_readStatement_7 : (.fieldLink RX5 124 "OneBeat$Reader" "start" "I" : Cond) ∈ wsX5_readStatement := List.mem_of_getElem? (i := 7) (by decide +kernel)
theorem iX5_readStatement_5 : ∀ w ∈ wsX50, w ∈ wsX5_readStatement := fun w h => List.mem_of_mem_drop (List.mem_of_mem_take ((show wsX50 = (wsX5_readStatement.drop 183).take 14 by decide +kernel) ▸ h))
theorem mX5_readStatement_1 : (.fieldLink RX5 65 "OneBeat$Reader" "setup" "LOneBeat$Setup;" : Cond) ∈ wsX5_readStatement := List.mem_of_getElem? (i := 1) (by decide +kernel)
theorem iX5_readStatement_6 : ∀ w ∈ wsX60, w ∈ wsX5_readStatement := fun w h => List.mem_of_mem_drop (List.mem_of_mem_take ((show wsX60 = (wsX5_readStatement.drop 197).take 8 by decide +kernel) ▸ h))
theorem iX5_readStatement_0 : ∀ w ∈ wsX00, w ∈ wsX5_readStatement := fun w h => List.mem_of_mem_drop (List.mem_of_mem_take ((show wsX00 = (wsX5_readStatement.drop 205).take 2 by decide +kernel) ▸ h))
theorem mX5_readStatement_2 : (.classLink RX5 119 RX0 : Cond) ∈ wsX5_readStatement := List.mem_of_getElem? (i := 2) (by decide +kernel)
theorem mX5_readStatement_3 : (.instantiable RX0 2 : Cond) ∈ wsX5_readStatement := List.mem_of_getElem? (i := 3) (by decide +kernel)
theorem mX5_readStatement_4 : (.initialized RX0 : Cond) ∈ wsX5_readStatement := List.mem_of_getElem? (i := 4) (by decide +kernel)
theorem dfl0 : ∀ j, j < 2 → defaultValue (tyX0 j) = vp_V [.null, .null] j := by decide +kernel
theorem mX5_readStatement_5 : (.fieldLink RX5 15 "OneBeat$Reader" "codes" "[I" : Cond) ∈ wsX5_readStatement := List.mem_of_getElem? (i := 5) (by decide +kernel)
theorem mX5_readStatement_6 : (.fieldLink RX5 38 "OneBeat$Reader" "codeCount" "I" : Cond) ∈ wsX5_readStatement := List.mem_of_getElem? (i := 6) (by decide +kernel)
theorem mX5_readStatement_157 : (.instanceMethod yX0_init : Cond) ∈ wsX5_readStatement := List.mem_of_getElem? (i := 157) (by decide +kernel)
theorem mX5_readStatement_156 : (.methodLink RX5 121 yX0_init : Cond) ∈ wsX5_readStatement := List.mem_of_getElem? (i := 156) (by decide +kernel)
theorem hdX0_init_o : yX0_init.cls ≠ "java/lang/invoke/MethodHandle" ∧ yX0_init.cls ≠ "java/lang/invoke/VarHandle" ∧ (parseMethodDescriptor yX0_init.desc).map (fun d => d.parameters.length) = some 2 := by decide +kernel
theorem hdX5_readPatience_v : yX5_readPatience.cls = RX5 ∧ yX5_readPatience.cls ≠ "java/lang/invoke/MethodHandle" ∧ yX5_readPatience.cls ≠ "java/lang/invoke/VarHandle" ∧ (parseMethodDescriptor yX5_readPatience.desc).map (fun d => d.parameters.length) = some 0 := by decide +kernel
theorem hdX5_readNeed_v : yX5_readNeed.cls = RX5 ∧ yX5_readNeed.cls ≠ "java/lang/invoke/MethodHandle" ∧ yX5_readNeed.cls ≠ "java/lang/invoke/VarHandle" ∧ (parseMethodDescriptor yX5_readNeed.desc).map (fun d => d.parameters.length) = some 0 := by decide +kernel
theorem hdX5_readLink_v : yX5_readLink.cls = RX5 ∧ yX5_readLink.cls ≠ "java/lang/invoke/MethodHandle" ∧ yX5_readLink.cls ≠ "java/lang/invoke/VarHandle" ∧ (parseMethodDescriptor yX5_readLink.desc).map (fun d => d.parameters.length) = some 0 := by decide +kernel
theorem hdX5_readClock_v : yX5_readClock.cls = RX5 ∧ yX5_readClock.cls ≠ "java/lang/invoke/MethodHandle" ∧ yX5_readClock.cls ≠ "java/lang/invoke/VarHandle" ∧ (parseMethodDescriptor yX5_readClock.desc).map (fun d => d.parameters.length) = some 0 := by decide +kernel
set_option maxHeartbeats 4000000 in
set_option maxRecDepth 100000 in
theorem c_X5_readStatement {l : Launch} {D : va_G} {cs : Nat → ClassId} {B0 T : Nat} {κ : KM} {H0 : Heap} (hT : WT B0 D cs T κ H0) {w : Nat} (hw : T2 κ w 6 10) (hs0 : ¬ (κ w).2.2.2 = 0) (hsu : T2 κ (κ w).2.2.2 7 11) : KC l yX5_readStatement wsX5_readStatement 21 467 3 618 D cs B0 H0 [.ref w] (Qi (fun r H => ∃ κ1, (∀ a, (κ a).1 ≠ 0 → a ≠ (κ w).2.2.2 → κ1 a = κ a) ∧ WT B0 D cs T κ1 H ∧ Fr B0 [10, 11] κ H0 H ∧ T2 κ1 (κ w).2.2.2 7 11 ∧ (((κ1 (κ w).2.2.2).2.2.1 = (κ (κ w).2.2.2).2.2.1 ∧ Gr H0 H 0 0) ∨ ((κ (κ w).2.2.2).2.2.1 ≠ 1 ∧ (κ1 (κ w).2.2.2).2.2.1 = 1 ∧ Gr H0 H 3 618)) ∧ (r = 0 ∨ r = 1))) := by
  refine KC.of cX5_readStatement 1 (some .boolean) (by decide) rfl (Nat.le_of_ble_eq_true rfl) ?_
  intro p e s m below meth c ls hx hb hr hml hown hts hlocks hin hN hE hH0 hl
  have hown : s.vm.findClass RX5 = some m.cls := hown
  have hl : lv_has ls 1 [(0, .ref w)] := hl
  have hL : OkL B0 [] := OkL.nil
  have hF : Fr B0 [10, 11] κ H0 H0 := Fr.rf
  refine lv_aload_n hx hb dX5_readStatement_0 rfl (lv_at hl 0 rfl) ?_
  refine va_ldcS hx hb hown (hN.s 2 rfl) dX5_readStatement_1 ?_
  refine cv_i (As := [.ref (cs 102)]) (rest := []) (b := w) ⟨hx, hb, hml, hown, hts⟩ (c_X5_isWord hT (w := w) hw (i := 2) (by decide)) (cwV 1 hts gX5_readStatement_X5_isWord rfl rfl rfl hdX5_isWord_v ⟨Nat.le_of_ble_eq_true rfl, Nat.le_of_ble_eq_true rfl⟩) hN hE hL (rcv6 hN hT hw.1) rfl rfl hl.1 (Nat.le_of_ble_eq_true rfl) dX5_readStatement_3 (Nat.zero_le _) (Nat.zero_le _) (fun r5806 H1 locs hL hqr5806 => ?_)
  obtain ⟨h9, hqr5806⟩ := hqr5806; replace h9 := h9.symm; subst h9
  rcases hqr5806 with rfl | rfl
  · refine lv_if_eq (tgt := 14) hx hb dX5_readStatement_6 (by decide) (fun _ => ?_) (fun c9 => absurd (by decide) c9)
    refine lv_aload_n hx hb dX5_readStatement_14 rfl (lv_at hl 0 rfl) ?_
    refine va_ldcS hx hb hown (hN.s 3 rfl) dX5_readStatement_15 ?_
    refine cv_i (As := [.ref (cs 103)]) (rest := []) (b := w) ⟨hx, hb, hml, hown, hts⟩ (c_X5_isWord hT (w := w) hw (i := 3) (by decide)) (cwV 1 hts gX5_readStatement_X5_isWord rfl rfl rfl hdX5_isWord_v ⟨Nat.le_of_ble_eq_true rfl, Nat.le_of_ble_eq_true rfl⟩) hN hE hL (rcv6 hN hT hw.1) rfl rfl hl.1 (Nat.le_of_ble_eq_true rfl) dX5_readStatement_17 (Nat.zero_le _) (Nat.zero_le _) (fun r5807 H1 locs hL hqr5807 => ?_)
    obtain ⟨h9, hqr5807⟩ := hqr5807; replace h9 := h9.symm; subst h9
    rcases hqr5807 with rfl | rfl
    · refine lv_if_eq (tgt := 28) hx hb dX5_readStatement_20 (by decide) (fun _ => ?_) (fun c9 => absurd (by decide) c9)
      refine lv_aload_n hx hb dX5_readStatement_28 rfl (lv_at hl 0 rfl) ?_
      refine va_ldcS hx hb hown (hN.s 4 rfl) dX5_readStatement_29 ?_
      refine cv_i (As := [.ref (cs 104)]) (rest := []) (b := w) ⟨hx, hb, hml, hown, hts⟩ (c_X5_isWord hT (w := w) hw (i := 4) (by decide)) (cwV 1 hts gX5_readStatement_X5_isWord rfl rfl rfl hdX5_isWord_v ⟨Nat.le_of_ble_eq_true rfl, Nat.le_of_ble_eq_true rfl⟩) hN hE hL (rcv6 hN hT hw.1) rfl rfl hl.1 (Nat.le_of_ble_eq_true rfl) dX5_readStatement_31 (Nat.zero_le _) (Nat.zero_le _) (fun r5808 H1 locs hL hqr5808 => ?_)
      obtain ⟨h9, hqr5808⟩ := hqr5808; replace h9 := h9.symm; subst h9
      rcases hqr5808 with rfl | rfl
      · refine lv_if_eq (tgt := 52) hx hb dX5_readStatement_34 (by decide) (fun _ => ?_) (fun c9 => absurd (by decide) c9)
        refine lv_aload_n hx hb dX5_readStatement_52 rfl (lv_at hl 0 rfl) ?_
        refine va_ldcS hx hb hown (hN.s 5 rfl) dX5_readStatement_53 ?_
        refine cv_i (As := [.ref (cs 105)]) (rest := []) (b := w) ⟨hx, hb, hml, hown, hts⟩ (c_X5_isWord hT (w := w) hw (i := 5) (by decide)) (cwV 1 hts gX5_readStatement_X5_isWord rfl rfl rfl hdX5_isWord_v ⟨Nat.le_of_ble_eq_true rfl, Nat.le_of_ble_eq_true rfl⟩) hN hE hL (rcv6 hN hT hw.1) rfl rfl hl.1 (Nat.le_of_ble_eq_true rfl) dX5_readStatement_55 (Nat.zero_le _) (Nat.zero_le _) (fun r5809 H1 locs hL hqr5809 => ?_)
        obtain ⟨h9, hqr5809⟩ := hqr5809; replace h9 := h9.symm; subst h9
        rcases hqr5809 with rfl | rfl
        · refine lv_if_eq (tgt := 76) hx hb dX5_readStatement_58 (by decide) (fun _ => ?_) (fun c9 => absurd (by decide) c9)
          refine lv_aload_n hx hb dX5_readStatement_76 rfl (lv_at hl 0 rfl) ?_
          refine va_ldcS hx hb hown (hN.s 6 rfl) dX5_readStatement_77 ?_
          refine cv_i (As := [.ref (cs 106)]) (rest := []) (b := w) ⟨hx, hb, hml, hown, hts⟩ (c_X5_isWord hT (w := w) hw (i := 6) (by decide)) (cwV 1 hts gX5_readStatement_X5_isWord rfl rfl rfl hdX5_isWord_v ⟨Nat.le_of_ble_eq_true rfl, Nat.le_of_ble_eq_true rfl⟩) hN hE hL (rcv6 hN hT hw.1) rfl rfl hl.1 (Nat.le_of_ble_eq_true rfl) dX5_readStatement_79 (Nat.zero_le _) (Nat.zero_le _) (fun r5810 H1 locs hL hqr5810 => ?_)
          obtain ⟨h9, hqr5810⟩ := hqr5810; replace h9 := h9.symm; subst h9
          rcases hqr5810 with rfl | rfl
          · refine lv_if_eq (tgt := 133) hx hb dX5_readStatement_82 (by decide) (fun _ => ?_) (fun c9 => absurd (by decide) c9)
            refine lv_aload_n hx hb dX5_readStatement_133 rfl (lv_at hl 0 rfl) ?_
            refine lv_bipush (v := (-2)) hx hb dX5_readStatement_134 (by decide) ?_
            refine lv_aload_n hx hb dX5_readStatement_136 rfl (lv_at hl 0 rfl) ?_
            obtain ⟨hb5811, e5811, hat5811, hk5811⟩ := hT.o6 hw.1
            obtain ⟨f5811_0, f5811_2, f5811_3, f5811_4, f5811_5, f5811_6, f5811_7, f5811_8, f5811_9, f5811_10, f5811_11, f5811_12, f5811_13, rfl, c5811_1, c5811_2, c5811_3, c5811_5, c5811_10, t5811_0, t5811_9, c5811_11, c5811_p2⟩ := hk5811
            obtain rfl : f5811_11 = .ref (κ w).2.2.2 := c5811_p2.resolve_left hs0
            have hP : va_P D vwCl [(w, .inr (5, [.ref f5811_0, .int (nI ((κ w).2.2.1)), .int (nI f5811_2), .int (nI f5811_3), .int f5811_4, .int (nI f5811_5), .int f5811_6, .int f5811_7, .int f5811_8, .ref f5811_9, .int (nI f5811_10), .ref (κ w).2.2.2, .int f5811_12, .int f5811_13]))] _ := va_P.cons hat5811 va_P.nil
            refine va_get (D := D) (ci := 5) (v := .int (nI f5811_5)) (C := RX5) (T := TX5) (N := 14) hx hb hts iX5_readStatement_5 hown hN.1 hP 0 rfl rfl 5 (by decide) (hts _ mX5_readStatement_7) (fun _ h9 => h9) rfl dX5_readStatement_137 ?_
            refine cv_i (As := [.int (-2), .int (nI f5811_5)]) (rest := []) (b := w) ⟨hx, hb, hml, hown, hts⟩ (c_X5_fail hT (w := w) hw (x := (-2)) (y := (nI f5811_5))) (cwV 2 hts gX5_readStatement_X5_fail rfl rfl rfl hdX5_fail_v ⟨Nat.le_of_ble_eq_true rfl, Nat.le_of_ble_eq_true rfl⟩) hN hE hL (rcv6 hN hT hw.1) rfl rfl hl.1 (Nat.le_of_ble_eq_true rfl) dX5_readStatement_140 (Nat.zero_le _) (Nat.zero_le _) (fun r5812 H1 locs hL hqr5812 => ?_)
            obtain ⟨hT1, hF1, hqr5812⟩ := hqr5812
            have hF := hF.tr (hF1.mono (by simp))
            have hT := hT1
            obtain rfl := hqr5812
            refine W.know (fun hg => ?_)
            rw [hH0] at hg
            exact en_i hx hb hr hlocks hL rfl (Nat.zero_le _) (Nat.zero_le _) dX5_readStatement_143 (⟨_, (fun _ _ _ => rfl), hT, hF, hsu, Or.inl ⟨rfl, hg⟩, Or.inl rfl⟩)
          · refine lv_if_eq (tgt := 133) hx hb dX5_readStatement_82 (by decide) (fun c9 => absurd c9 (by decide)) (fun _ => ?_)
            refine lv_aload_n hx hb dX5_readStatement_85 rfl (lv_at hl 0 rfl) ?_
            obtain ⟨hb5813, e5813, hat5813, hk5813⟩ := hT.o6 hw.1
            obtain ⟨f5813_0, f5813_2, f5813_3, f5813_4, f5813_5, f5813_6, f5813_7, f5813_8, f5813_9, f5813_10, f5813_11, f5813_12, f5813_13, rfl, c5813_1, c5813_2, c5813_3, c5813_5, c5813_10, t5813_0, t5813_9, c5813_11, c5813_p2⟩ := hk5813
            obtain rfl : f5813_11 = .ref (κ w).2.2.2 := c5813_p2.resolve_left hs0
            have hP : va_P D vwCl [(w, .inr (5, [.ref f5813_0, .int (nI ((κ w).2.2.1)), .int (nI f5813_2), .int (nI f5813_3), .int f5813_4, .int (nI f5813_5), .int f5813_6, .int f5813_7, .int f5813_8, .ref f5813_9, .int (nI f5813_10), .ref (κ w).2.2.2, .int f5813_12, .int f5813_13]))] _ := va_P.cons hat5813 va_P.nil
            refine va_get (D := D) (ci := 5) (v := .ref (κ w).2.2.2) (C := RX5) (T := TX5) (N := 14) hx hb hts iX5_readStatement_5 hown hN.1 hP 0 rfl rfl 11 (by decide) (hts _ mX5_readStatement_1) (fun _ h9 => h9) rfl dX5_readStatement_86 ?_
            obtain ⟨hb5814, e5814, hat5814, hk5814⟩ := hT.o7 hsu.1
            obtain ⟨f5814_0, f5814_1, f5814_2, f5814_3, f5814_4, f5814_5, f5814_6, f5814_7, rfl, c5814_0, c5814_3, c5814_mg, t5814_4, t5814_5, t5814_6, t5814_7⟩ := hk5814
            rw [hsu.2] at t5814_4
            rw [hsu.2] at t5814_5
            rw [hsu.2] at t5814_6
            rw [hsu.2] at t5814_7
            have hP : va_P D vwCl [((κ w).2.2.2, .inr (6, [.int (nI f5814_0), .int f5814_1, .int f5814_2, f5814_3, .ref f5814_4, .ref f5814_5, .ref f5814_6, .ref f5814_7])), (w, .inr (5, [.ref f5813_0, .int (nI ((κ w).2.2.1)), .int (nI f5813_2), .int (nI f5813_3), .int f5813_4, .int (nI f5813_5), .int f5813_6, .int f5813_7, .int f5813_8, .ref f5813_9, .int (nI f5813_10), .ref (κ w).2.2.2, .int f5813_12, .int f5813_13]))] _ := va_P.cons hat5814 hP
            rcases c5814_3 with rfl | ⟨a5815, rfl, ta5815⟩
            · refine va_getN (D := D) (ci := 6) (v := .null) (C := RX6) (T := TX6) (N := 8) hx hb hts iX5_readStatement_6 hown hN.1 hP 0 rfl rfl 3 (by decide) (hN.f 44 rfl) (fun _ h9 => h9) rfl dX5_readStatement_89 ?_
              refine lv_ifnonnullN hx hb dX5_readStatement_92 ?_
              have hmg1 : (κ (κ w).2.2.2).2.2.1 ≠ 1 := (c5814_mg).resolve_right (by rintro ⟨_, h9⟩; cases h9)
              refine lv_aload_n hx hb dX5_readStatement_95 rfl (lv_at hl 0 rfl) ?_
              refine cv_v (As := []) (rest := []) (b := w) ⟨hx, hb, hml, hown, hts⟩ (c_X5_step hT (w := w) hw) (cwV 0 hts gX5_readStatement_X5_step rfl rfl rfl hdX5_step_v ⟨Nat.le_of_ble_eq_true rfl, Nat.le_of_ble_eq_true rfl⟩) hN hE hL (rcv6 hN hT hw.1) rfl rfl hl.1 (Nat.le_of_ble_eq_true rfl) dX5_readStatement_96 (Nat.zero_le _) (Nat.zero_le _) (fun H1 locs hL hqr5816 => ?_)
              obtain ⟨hT1, hF1, hqr5816⟩ := hqr5816
              have hP : va_P D vwCl [((κ w).2.2.2, .inr (6, [.int (nI f5814_0), .int f5814_1, .int f5814_2, .null, .ref f5814_4, .ref f5814_5, .ref f5814_6, .ref f5814_7]))] _ := hF1.hP (hP.sub [0] rfl) (fa_c ⟨by rw [hsu.1]; decide, by rw [hsu.2]; first | decide | (simp; done) | (simp [h15a, h15b, h15c]; done) | (simp; omega)⟩ fa_n)
              have hF := hF.tr (hF1.mono (by simp))
              have hT := hT1
              have f5817 := hqr5816
              refine lv_aload_n hx hb dX5_readStatement_99 rfl (lv_at hl 0 rfl) ?_
              refine lv_iconst (v := 0) hx hb dX5_readStatement_100 (by decide) ?_
              refine cv_i (As := [.int 0]) (rest := []) (b := w) ⟨hx, hb, hml, hown, hts⟩ (c_X5_readSum_d0 hT (w := w) hw) (cwV 1 hts gX5_readStatement_X5_readSum rfl rfl rfl hdX5_readSum_v ⟨Nat.le_of_ble_eq_true rfl, Nat.le_of_ble_eq_true rfl⟩) hN hE hL (rcv6 hN hT hw.1) rfl rfl hl.1 (Nat.le_of_ble_eq_true rfl) dX5_readStatement_101 (Nat.zero_le _) (Nat.zero_le _) (fun r5818 H1 locs hL hqr5818 => ?_)
              obtain ⟨hT1, hF1, hqr5818⟩ := hqr5818
              have hP : va_P D vwCl [((κ w).2.2.2, .inr (6, [.int (nI f5814_0), .int f5814_1, .int f5814_2, .null, .ref f5814_4, .ref f5814_5, .ref f5814_6, .ref f5814_7]))] _ := hF1.hP (hP.sub [0] rfl) (fa_c ⟨by rw [hsu.1]; decide, by rw [hsu.2]; first | decide | (simp; done) | (simp [h15a, h15b, h15c]; done) | (simp; omega)⟩ fa_n)
              have hF := hF.tr (hF1.mono (by simp))
              have hT := hT1
              rcases hqr5818 with rfl | rfl
              · refine lv_if_ne (tgt := 109) hx hb dX5_readStatement_104 (by decide) (fun c9 => absurd (by decide) c9) (fun _ => ?_)
                refine lv_iconst (v := 0) hx hb dX5_readStatement_107 (by decide) ?_
                refine W.know (fun hg => ?_)
                rw [hH0] at hg
                exact en_i hx hb hr hlocks hL rfl (Nat.zero_le _) (Nat.zero_le _) dX5_readStatement_108 (⟨_, (fun _ _ _ => rfl), hT, hF, hsu, Or.inl ⟨rfl, hg⟩, Or.inl rfl⟩)
              · refine lv_if_ne (tgt := 109) hx hb dX5_readStatement_104 (by decide) (fun _ => ?_) (fun c9 => absurd c9 (by decide))
                refine lv_aload_n hx hb dX5_readStatement_109 rfl (lv_at hl 0 rfl) ?_
                obtain ⟨hb5819, e5819, hat5819, hk5819⟩ := hT.o6 hw.1
                obtain ⟨f5819_0, f5819_2, f5819_3, f5819_4, f5819_5, f5819_6, f5819_7, f5819_8, f5819_9, f5819_10, f5819_11, f5819_12, f5819_13, rfl, c5819_1, c5819_2, c5819_3, c5819_5, c5819_10, t5819_0, t5819_9, c5819_11, c5819_p2⟩ := hk5819
                obtain rfl : f5819_11 = .ref (κ w).2.2.2 := c5819_p2.resolve_left hs0
                have hP : va_P D vwCl [(w, .inr (5, [.ref f5819_0, .int (nI ((κ w).2.2.1)), .int (nI f5819_2), .int (nI f5819_3), .int f5819_4, .int (nI f5819_5), .int f5819_6, .int f5819_7, .int f5819_8, .ref f5819_9, .int (nI f5819_10), .ref (κ w).2.2.2, .int f5819_12, .int f5819_13])), ((κ w).2.2.2, .inr (6, [.int (nI f5814_0), .int f5814_1, .int f5814_2, .null, .ref f5814_4, .ref f5814_5, .ref f5814_6, .ref f5814_7]))] _ := va_P.cons hat5819 hP
                refine va_get (D := D) (ci := 5) (v := .ref (κ w).2.2.2) (C := RX5) (T := TX5) (N := 14) hx hb hts iX5_readStatement_5 hown hN.1 hP 0 rfl rfl 11 (by decide) (hts _ mX5_readStatement_1) (fun _ h9 => h9) rfl dX5_readStatement_110 ?_
                have hb0 : B0 ≤ _ := hT.b0 hw (by decide)
                have hB : Bx B0 D _ [(w, .inr (5, [.ref f5819_0, .int (nI ((κ w).2.2.1)), .int (nI f5819_2), .int (nI f5819_3), .int f5819_4, .int (nI f5819_5), .int f5819_6, .int f5819_7, .int f5819_8, .ref f5819_9, .int (nI f5819_10), .ref (κ w).2.2.2, .int f5819_12, .int f5819_13])), ((κ w).2.2.2, .inr (6, [.int (nI f5814_0), .int f5814_1, .int f5814_2, .null, .ref f5814_4, .ref f5814_5, .ref f5814_6, .ref f5814_7]))] [] _ _ := Bx.of (fun a => (κ a).1) hL hP (fa_c hb5819 (fa_c hb5814 fa_n)) (by simp only [List.map_cons, List.map_nil, hw.1, hsu.1]; decide)
                refine nw_o (ci := 0) (fs := [.null, .null]) (C := RX0) (T := TX0) (N := 2) hx hb hts iX5_readStatement_0 tyX0 tyX0_ok hown (hts _ mX5_readStatement_2) (hts _ mX5_readStatement_3) (hts _ mX5_readStatement_4) hN rfl dfl0 (show 0 + 1 ≤ 3 by omega) (show 0 + 2 ≤ 618 by omega) dX5_readStatement_113 (fun q5820 H heq5820 hzq5820 hoq5820 hatq5820 => ?_)
                have hgeq5820 : _ ≤ q5820 := Nat.le_trans hB.2.2.1 (Nat.le_of_eq heq5820.symm)
                have hbq5820 : B0 ≤ q5820 := Nat.le_trans hb0 hgeq5820
                have hfq5820 : (κ q5820).1 = 0 := hT.fresh hgeq5820
                have hB := hB.nw heq5820 hzq5820 hoq5820 hatq5820 hb0
                have hB : Bx B0 D _ [(w, .inr (5, [.ref f5819_0, .int (nI ((κ w).2.2.1)), .int (nI f5819_2), .int (nI f5819_3), .int f5819_4, .int (nI f5819_5), .int f5819_6, .int f5819_7, .int f5819_8, .ref f5819_9, .int (nI f5819_10), .ref (κ w).2.2.2, .int f5819_12, .int f5819_13])), ((κ w).2.2.2, .inr (6, [.int (nI f5814_0), .int f5814_1, .int f5814_2, .null, .ref f5814_4, .ref f5814_5, .ref f5814_6, .ref f5814_7])), (q5820, .inr (0, [.null, .null]))] [] _ _ := hB
                refine lv_dup hx hb dX5_readStatement_116 rfl ?_
                refine lv_aload_n hx hb dX5_readStatement_117 rfl (lv_at hl 0 rfl) ?_
                refine va_get (D := D) (ci := 5) (v := .ref f5819_9) (C := RX5) (T := TX5) (N := 14) hx hb hts iX5_readStatement_5 hown hN.1 hB.1 0 rfl rfl 9 (by decide) (hts _ mX5_readStatement_5) (fun _ h9 => h9) rfl dX5_readStatement_118 ?_
                refine lv_aload_n hx hb dX5_readStatement_121 rfl (lv_at hl 0 rfl) ?_
                refine va_get (D := D) (ci := 5) (v := .int (nI f5819_10)) (C := RX5) (T := TX5) (N := 14) hx hb hts iX5_readStatement_5 hown hN.1 hB.1 0 rfl rfl 10 (by decide) (hts _ mX5_readStatement_6) (fun _ h9 => h9) rfl dX5_readStatement_122 ?_
                have hT : WT B0 D cs T κ _ := hT.close hB trivial
                have hF : Fr B0 [10, 11] κ H0 _ := hF.close hB fa_n
                have hL : OkL B0 _ := hB.2.2.2.2.2
                have hP : va_P D vwCl [(w, .inr (5, [.ref f5819_0, .int (nI ((κ w).2.2.1)), .int (nI f5819_2), .int (nI f5819_3), .int f5819_4, .int (nI f5819_5), .int f5819_6, .int f5819_7, .int f5819_8, .ref f5819_9, .int (nI f5819_10), .ref (κ w).2.2.2, .int f5819_12, .int f5819_13])), ((κ w).2.2.2, .inr (6, [.int (nI f5814_0), .int f5814_1, .int f5814_2, .null, .ref f5814_4, .ref f5814_5, .ref f5814_6, .ref f5814_7])), (q5820, .inr (0, [.null, .null]))] _ := hB.1
                refine ci_v (As := [.ref f5819_9, .int (nI f5819_10)]) (rest := [.ref q5820, .ref (κ w).2.2.2]) (b := q5820) ⟨hx, hb, hml, hown, hts⟩ (c_X0_init hT (w := q5820) hfq5820 hbq5820 (hP 2 _ rfl) (v := f5819_9) t5819_9 (n := f5819_10) (by first | omega | decide | assumption)) (cwI 2 hts gX5_readStatement_X0_init rfl rfl rfl (hts _ mX5_readStatement_4) (hts _ mX5_readStatement_156) (hts _ mX5_readStatement_157) rfl hdX0_init_o ⟨Nat.le_of_ble_eq_true rfl, Nat.le_of_ble_eq_true rfl⟩) hN hE hL rfl rfl hl.1 (Nat.le_of_ble_eq_true rfl) dX5_readStatement_125 (show 1 + 2 ≤ 3 by omega) (show (0 + 2) + 616 ≤ 618 by omega) (fun H1 locs hL hqr5821 => ?_)
                obtain ⟨κr5821, hxr5821, hT1, hF1, hqr5821⟩ := hqr5821
                have hF := hF.tr (hF1.mono (by simp))
                have hT := hT1
                have hKF : KF κ κr5821 := hxr5821.f
                have hKX : KX κ κr5821 := hxr5821
                have hw := (hxr5821.f.t2 hw (by decide))
                have hsu := (hxr5821.f.t2 hsu (by decide))
                have hq5820 := hqr5821
                obtain ⟨hb5822, e5822, hat5822, hk5822⟩ := hT.o7 hsu.1
                obtain ⟨f5822_0, f5822_1, f5822_2, f5822_3, f5822_4, f5822_5, f5822_6, f5822_7, rfl, c5822_0, c5822_3, c5822_mg, t5822_4, t5822_5, t5822_6, t5822_7⟩ := hk5822
                rw [hsu.2] at t5822_4
                rw [hsu.2] at t5822_5
                rw [hsu.2] at t5822_6
                rw [hsu.2] at t5822_7
                have hP : va_P D vwCl [((κ w).2.2.2, .inr (6, [.int (nI f5822_0), .int f5822_1, .int f5822_2, f5822_3, .ref f5822_4, .ref f5822_5, .ref f5822_6, .ref f5822_7]))] _ := va_P.cons hat5822 va_P.nil
                have hB : Bx B0 D _ [((κ w).2.2.2, .inr (6, [.int (nI f5822_0), .int f5822_1, .int f5822_2, f5822_3, .ref f5822_4, .ref f5822_5, .ref f5822_6, .ref f5822_7]))] [] _ _ := Bx.of (fun a => (κr5821 a).1) hL hP (fa_c hb5822 fa_n) (by simp only [List.map_cons, List.map_nil, hsu.1]; decide)
                refine b_putN (D := D) (ci := 6) (v := .ref q5820) (ty := .object "OneBeat$Formula") (C := RX6) (T := TX6) (N := 8) hx hb hts iX5_readStatement_6 tyX6 tyX6_ok nmX6 hown hN hB 0 rfl rfl 3 (by decide) (hN.f 44 rfl) (fun _ h9 => h9) rfl (by decide +kernel) rfl rfl (Nat.le_of_ble_eq_true rfl) (.inl rfl) dX5_readStatement_128 (fun H locs hB => ?_)
                have hB : Bx B0 D _ [((κ w).2.2.2, .inr (6, [.int (nI f5822_0), .int f5822_1, .int f5822_2, .ref q5820, .ref f5822_4, .ref f5822_5, .ref f5822_6, .ref f5822_7]))] [(κ w).2.2.2] _ _ := hB
                refine lv_iconst (v := 1) hx hb dX5_readStatement_131 (by decide) ?_
                have hF : Fr B0 [10, 11] κ H0 _ := hF.closeN hB (fa_c (fun h9 => by rw [← (hKF _ h9).2, hsu.2]; simp) fa_n)
                have hT : WT B0 D cs T (kp κr5821 (κ w).2.2.2 1 0) _ := hT.closeK (κ w).2.2.2 1 0 hB (by rw [hsu.1]; decide) (by rw [hsu.1]; decide) (List.mem_of_getElem? (i := 0) rfl) ⟨⟨0, _, rfl, kp_ok (ok_7 (k := ((κr5821 (κ w).2.2.2).1, (κr5821 (κ w).2.2.2).2.1, _, _)) hsu.1 ⟨_, _, _, _, _, _, _, _, rfl, (by omega), (Or.inr ⟨_, rfl, (t2kp hq5820)⟩), (Or.inr ⟨_, rfl⟩), ⟨(t2kp t5822_4).1, by rw [hsu.2]; exact (t2kp t5822_4).2⟩, ⟨(t2kp t5822_5).1, by rw [hsu.2]; exact (t2kp t5822_5).2⟩, ⟨(t2kp t5822_6).1, by rw [hsu.2]; exact (t2kp t5822_6).2⟩, ⟨(t2kp t5822_7).1, by rw [hsu.2]; exact (t2kp t5822_7).2⟩⟩)⟩, trivial⟩
                have hL : OkL B0 _ := hB.2.2.2.2.2
                have hsu := t2kp (x := 1) (y := 0) (a := (κ w).2.2.2) hsu
                refine W.know (fun hg => ?_)
                rw [hH0] at hg
                exact en_i hx hb hr hlocks hL rfl (show 3 ≤ 3 by omega) (show ((0 + 2) + 616) ≤ 618 by omega) dX5_readStatement_132 (⟨_, (fun a h1 h2 => (kp_n h2).trans (hKX a h1)), hT, hF, hsu, Or.inr ⟨hmg1, by rw [kp_a], hg.mono (by omega) (by omega)⟩, Or.inr rfl⟩)
            · refine va_getN (D := D) (ci := 6) (v := .ref a5815) (C := RX6) (T := TX6) (N := 8) hx hb hts iX5_readStatement_6 hown hN.1 hP 0 rfl rfl 3 (by decide) (hN.f 44 rfl) (fun _ h9 => h9) rfl dX5_readStatement_89 ?_
              refine lv_ifnonnull (tgt := 133) hx hb dX5_readStatement_92 (by decide) ?_
              refine lv_aload_n hx hb dX5_readStatement_133 rfl (lv_at hl 0 rfl) ?_
              refine lv_bipush (v := (-2)) hx hb dX5_readStatement_134 (by decide) ?_
              refine lv_aload_n hx hb dX5_readStatement_136 rfl (lv_at hl 0 rfl) ?_
              refine va_get (D := D) (ci := 5) (v := .int (nI f5813_5)) (C := RX5) (T := TX5) (N := 14) hx hb hts iX5_readStatement_5 hown hN.1 hP 1 rfl rfl 5 (by decide) (hts _ mX5_readStatement_7) (fun _ h9 => h9) rfl dX5_readStatement_137 ?_
              refine cv_i (As := [.int (-2), .int (nI f5813_5)]) (rest := []) (b := w) ⟨hx, hb, hml, hown, hts⟩ (c_X5_fail hT (w := w) hw (x := (-2)) (y := (nI f5813_5))) (cwV 2 hts gX5_readStatement_X5_fail rfl rfl rfl hdX5_fail_v ⟨Nat.le_of_ble_eq_true rfl, Nat.le_of_ble_eq_true rfl⟩) hN hE hL (rcv6 hN hT hw.1) rfl rfl hl.1 (Nat.le_of_ble_eq_true rfl) dX5_readStatement_140 (Nat.zero_le _) (Nat.zero_le _) (fun r5823 H1 locs hL hqr5823 => ?_)
              obtain ⟨hT1, hF1, hqr5823⟩ := hqr5823
              have hP : va_P D vwCl [((κ w).2.2.2, .inr (6, [.int (nI f5814_0), .int f5814_1, .int f5814_2, .ref a5815, .ref f5814_4, .ref f5814_5, .ref f5814_6, .ref f5814_7]))] _ := hF1.hP (hP.sub [0] rfl) (fa_c ⟨by rw [hsu.1]; decide, by rw [hsu.2]; first | decide | (simp; done) | (simp [h15a, h15b, h15c]; done) | (simp; omega)⟩ fa_n)
              have hF := hF.tr (hF1.mono (by simp))
              have hT := hT1
              obtain rfl := hqr5823
              refine W.know (fun hg => ?_)
              rw [hH0] at hg
              exact en_i hx hb hr hlocks hL rfl (Nat.zero_le _) (Nat.zero_le _) dX5_readStatement_143 (⟨_, (fun _ _ _ => rfl), hT, hF, hsu, Or.inl ⟨rfl, hg⟩, Or.inl rfl⟩)
        · refine lv_if_eq (tgt := 76) hx hb dX5_readStatement_58 (by decide) (fun c9 => absurd c9 (by decide)) (fun _ => ?_)
          refine lv_aload_n hx hb dX5_readStatement_61 rfl (lv_at hl 0 rfl) ?_
          obtain ⟨hb5824, e5824, hat5824, hk5824⟩ := hT.o6 hw.1
          obtain ⟨f5824_0, f5824_2, f5824_3, f5824_4, f5824_5, f5824_6, f5824_7, f5824_8, f5824_9, f5824_10, f5824_11, f5824_12, f5824_13, rfl, c5824_1, c5824_2, c5824_3, c5824_5, c5824_10, t5824_0, t5824_9, c5824_11, c5824_p2⟩ := hk5824
          obtain rfl : f5824_11 = .ref (κ w).2.2.2 := c5824_p2.resolve_left hs0
          have hP : va_P D vwCl [(w, .inr (5, [.ref f5824_0, .int (nI ((κ w).2.2.1)), .int (nI f5824_2), .int (nI f5824_3), .int f5824_4, .int (nI f5824_5), .int f5824_6, .int f5824_7, .int f5824_8, .ref f5824_9, .int (nI f5824_10), .ref (κ w).2.2.2, .int f5824_12, .int f5824_13]))] _ := va_P.cons hat5824 va_P.nil
          refine va_get (D := D) (ci := 5) (v := .ref (κ w).2.2.2) (C := RX5) (T := TX5) (N := 14) hx hb hts iX5_readStatement_5 hown hN.1 hP 0 rfl rfl 11 (by decide) (hts _ mX5_readStatement_1) (fun _ h9 => h9) rfl dX5_readStatement_62 ?_
          obtain ⟨hb5825, e5825, hat5825, hk5825⟩ := hT.o7 hsu.1
          obtain ⟨f5825_0, f5825_1, f5825_2, f5825_3, f5825_4, f5825_5, f5825_6, f5825_7, rfl, c5825_0, c5825_3, c5825_mg, t5825_4, t5825_5, t5825_6, t5825_7⟩ := hk5825
          rw [hsu.2] at t5825_4
          rw [hsu.2] at t5825_5
          rw [hsu.2] at t5825_6
          rw [hsu.2] at t5825_7
          have hP : va_P D vwCl [((κ w).2.2.2, .inr (6, [.int (nI f5825_0), .int f5825_1, .int f5825_2, f5825_3, .ref f5825_4, .ref f5825_5, .ref f5825_6, .ref f5825_7])), (w, .inr (5, [.ref f5824_0, .int (nI ((κ w).2.2.1)), .int (nI f5824_2), .int (nI f5824_3), .int f5824_4, .int (nI f5824_5), .int f5824_6, .int f5824_7, .int f5824_8, .ref f5824_9, .int (nI f5824_10), .ref (κ w).2.2.2, .int f5824_12, .int f5824_13]))] _ := va_P.cons hat5825 hP
          refine va_getN (D := D) (ci := 6) (v := .int f5825_2) (C := RX6) (T := TX6) (N := 8) hx hb hts iX5_readStatement_6 hown hN.1 hP 0 rfl rfl 2 (by decide) (hN.f 42 rfl) (fun _ h9 => h9) rfl dX5_readStatement_65 ?_
          refine lv_if_ne (tgt := 76) hx hb dX5_readStatement_68 (by decide) (fun c5826 => ?_) (fun c5826 => ?_)
          · refine lv_aload_n hx hb dX5_readStatement_76 rfl (lv_at hl 0 rfl) ?_
            refine va_ldcS hx hb hown (hN.s 6 rfl) dX5_readStatement_77 ?_
            refine cv_i (As := [.ref (cs 106)]) (rest := []) (b := w) ⟨hx, hb, hml, hown, hts⟩ (c_X5_isWord hT (w := w) hw (i := 6) (by decide)) (cwV 1 hts gX5_readStatement_X5_isWord rfl rfl rfl hdX5_isWord_v ⟨Nat.le_of_ble_eq_true rfl, Nat.le_of_ble_eq_true rfl⟩) hN hE hL (rcv6 hN hT hw.1) rfl rfl hl.1 (Nat.le_of_ble_eq_true rfl) dX5_readStatement_79 (Nat.zero_le _) (Nat.zero_le _) (fun r5827 H1 locs hL hqr5827 => ?_)
            obtain ⟨h9, hqr5827⟩ := hqr5827; replace h9 := h9.symm; subst h9
            rcases hqr5827 with rfl | rfl
            · refine lv_if_eq (tgt := 133) hx hb dX5_readStatement_82 (by decide) (fun _ => ?_) (fun c9 => absurd (by decide) c9)
              refine lv_aload_n hx hb dX5_readStatement_133 rfl (lv_at hl 0 rfl) ?_
              refine lv_bipush (v := (-2)) hx hb dX5_readStatement_134 (by decide) ?_
              refine lv_aload_n hx hb dX5_readStatement_136 rfl (lv_at hl 0 rfl) ?_
              refine va_get (D := D) (ci := 5) (v := .int (nI f5824_5)) (C := RX5) (T := TX5) (N := 14) hx hb hts iX5_readStatement_5 hown hN.1 hP 1 rfl rfl 5 (by decide) (hts _ mX5_readStatement_7) (fun _ h9 => h9) rfl dX5_readStatement_137 ?_
              refine cv_i (As := [.int (-2), .int (nI f5824_5)]) (rest := []) (b := w) ⟨hx, hb, hml, hown, hts⟩ (c_X5_fail hT (w := w) hw (x := (-2)) (y := (nI f5824_5))) (cwV 2 hts gX5_readStatement_X5_fail rfl rfl rfl hdX5_fail_v ⟨Nat.le_of_ble_eq_true rfl, Nat.le_of_ble_eq_true rfl⟩) hN hE hL (rcv6 hN hT hw.1) rfl rfl hl.1 (Nat.le_of_ble_eq_true rfl) dX5_readStatement_140 (Nat.zero_le _) (Nat.zero_le _) (fun r5828 H1 locs hL hqr5828 => ?_)
              obtain ⟨hT1, hF1, hqr5828⟩ := hqr5828
              have hP : va_P D vwCl [((κ w).2.2.2, .inr (6, [.int (nI f5825_0), .int f5825_1, .int f5825_2, f5825_3, .ref f5825_4, .ref f5825_5, .ref f5825_6, .ref f5825_7]))] _ := hF1.hP (hP.sub [0] rfl) (fa_c ⟨by rw [hsu.1]; decide, by rw [hsu.2]; first | decide | (simp; done) | (simp [h15a, h15b, h15c]; done) | (simp; omega)⟩ fa_n)
              have hF := hF.tr (hF1.mono (by simp))
              have hT := hT1
              obtain rfl := hqr5828
              refine W.know (fun hg => ?_)
              rw [hH0] at hg
              exact en_i hx hb hr hlocks hL rfl (Nat.zero_le _) (Nat.zero_le _) dX5_readStatement_143 (⟨_, (fun _ _ _ => rfl), hT, hF, hsu, Or.inl ⟨rfl, hg⟩, Or.inl rfl⟩)
            · refine lv_if_eq (tgt := 133) hx hb dX5_readStatement_82 (by decide) (fun c9 => absurd c9 (by decide)) (fun _ => ?_)
              refine lv_aload_n hx hb dX5_readStatement_85 rfl (lv_at hl 0 rfl) ?_
              refine va_get (D := D) (ci := 5) (v := .ref (κ w).2.2.2) (C := RX5) (T := TX5) (N := 14) hx hb hts iX5_readStatement_5 hown hN.1 hP 1 rfl rfl 11 (by decide) (hts _ mX5_readStatement_1) (fun _ h9 => h9) rfl dX5_readStatement_86 ?_
              rcases c5825_3 with rfl | ⟨a5829, rfl, ta5829⟩
              · refine va_getN (D := D) (ci := 6) (v := .null) (C := RX6) (T := TX6) (N := 8) hx hb hts iX5_readStatement_6 hown hN.1 hP 0 rfl rfl 3 (by decide) (hN.f 44 rfl) (fun _ h9 => h9) rfl dX5_readStatement_89 ?_
                refine lv_ifnonnullN hx hb dX5_readStatement_92 ?_
                have hmg1 : (κ (κ w).2.2.2).2.2.1 ≠ 1 := (c5825_mg).resolve_right (by rintro ⟨_, h9⟩; cases h9)
                refine lv_aload_n hx hb dX5_readStatement_95 rfl (lv_at hl 0 rfl) ?_
                refine cv_v (As := []) (rest := []) (b := w) ⟨hx, hb, hml, hown, hts⟩ (c_X5_step hT (w := w) hw) (cwV 0 hts gX5_readStatement_X5_step rfl rfl rfl hdX5_step_v ⟨Nat.le_of_ble_eq_true rfl, Nat.le_of_ble_eq_true rfl⟩) hN hE hL (rcv6 hN hT hw.1) rfl rfl hl.1 (Nat.le_of_ble_eq_true rfl) dX5_readStatement_96 (Nat.zero_le _) (Nat.zero_le _) (fun H1 locs hL hqr5830 => ?_)
                obtain ⟨hT1, hF1, hqr5830⟩ := hqr5830
                have hP : va_P D vwCl [((κ w).2.2.2, .inr (6, [.int (nI f5825_0), .int f5825_1, .int f5825_2, .null, .ref f5825_4, .ref f5825_5, .ref f5825_6, .ref f5825_7]))] _ := hF1.hP (hP.sub [0] rfl) (fa_c ⟨by rw [hsu.1]; decide, by rw [hsu.2]; first | decide | (simp; done) | (simp [h15a, h15b, h15c]; done) | (simp; omega)⟩ fa_n)
                have hF := hF.tr (hF1.mono (by simp))
                have hT := hT1
                have f5831 := hqr5830
                refine lv_aload_n hx hb dX5_readStatement_99 rfl (lv_at hl 0 rfl) ?_
                refine lv_iconst (v := 0) hx hb dX5_readStatement_100 (by decide) ?_
                refine cv_i (As := [.int 0]) (rest := []) (b := w) ⟨hx, hb, hml, hown, hts⟩ (c_X5_readSum_d0 hT (w := w) hw) (cwV 1 hts gX5_readStatement_X5_readSum rfl rfl rfl hdX5_readSum_v ⟨Nat.le_of_ble_eq_true rfl, Nat.le_of_ble_eq_true rfl⟩) hN hE hL (rcv6 hN hT hw.1) rfl rfl hl.1 (Nat.le_of_ble_eq_true rfl) dX5_readStatement_101 (Nat.zero_le _) (Nat.zero_le _) (fun r5832 H1 locs hL hqr5832 => ?_)
                obtain ⟨hT1, hF1, hqr5832⟩ := hqr5832
                have hP : va_P D vwCl [((κ w).2.2.2, .inr (6, [.int (nI f5825_0), .int f5825_1, .int f5825_2, .null, .ref f5825_4, .ref f5825_5, .ref f5825_6, .ref f5825_7]))] _ := hF1.hP (hP.sub [0] rfl) (fa_c ⟨by rw [hsu.1]; decide, by rw [hsu.2]; first | decide | (simp; done) | (simp [h15a, h15b, h15c]; done) | (simp; omega)⟩ fa_n)
                have hF := hF.tr (hF1.mono (by simp))
                have hT := hT1
                rcases hqr5832 with rfl | rfl
                · refine lv_if_ne (tgt := 109) hx hb dX5_readStatement_104 (by decide) (fun c9 => absurd (by decide) c9) (fun _ => ?_)
                  refine lv_iconst (v := 0) hx hb dX5_readStatement_107 (by decide) ?_
                  refine W.know (fun hg => ?_)
                  rw [hH0] at hg
                  exact en_i hx hb hr hlocks hL rfl (Nat.zero_le _) (Nat.zero_le _) dX5_readStatement_108 (⟨_, (fun _ _ _ => rfl), hT, hF, hsu, Or.inl ⟨rfl, hg⟩, Or.inl rfl⟩)
                · refine lv_if_ne (tgt := 109) hx hb dX5_readStatement_104 (by decide) (fun _ => ?_) (fun c9 => absurd c9 (by decide))
                  refine lv_aload_n hx hb dX5_readStatement_109 rfl (lv_at hl 0 rfl) ?_
                  obtain ⟨hb5833, e5833, hat5833, hk5833⟩ := hT.o6 hw.1
                  obtain ⟨f5833_0, f5833_2, f5833_3, f5833_4, f5833_5, f5833_6, f5833_7, f5833_8, f5833_9, f5833_10, f5833_11, f5833_12, f5833_13, rfl, c5833_1, c5833_2, c5833_3, c5833_5, c5833_10, t5833_0, t5833_9, c5833_11, c5833_p2⟩ := hk5833
                  obtain rfl : f5833_11 = .ref (κ w).2.2.2 := c5833_p2.resolve_left hs0
                  have hP : va_P D vwCl [(w, .inr (5, [.ref f5833_0, .int (nI ((κ w).2.2.1)), .int (nI f5833_2), .int (nI f5833_3), .int f5833_4, .int (nI f5833_5), .int f5833_6, .int f5833_7, .int f5833_8, .ref f5833_9, .int (nI f5833_10), .ref (κ w).2.2.2, .int f5833_12, .int f5833_13])), ((κ w).2.2.2, .inr (6, [.int (nI f5825_0), .int f5825_1, .int f5825_2, .null, .ref f5825_4, .ref f5825_5, .ref f5825_6, .ref f5825_7]))] _ := va_P.cons hat5833 hP
                  refine va_get (D := D) (ci := 5) (v := .ref (κ w).2.2.2) (C := RX5) (T := TX5) (N := 14) hx hb hts iX5_readStatement_5 hown hN.1 hP 0 rfl rfl 11 (by decide) (hts _ mX5_readStatement_1) (fun _ h9 => h9) rfl dX5_readStatement_110 ?_
                  have hb0 : B0 ≤ _ := hT.b0 hw (by decide)
                  have hB : Bx B0 D _ [(w, .inr (5, [.ref f5833_0, .int (nI ((κ w).2.2.1)), .int (nI f5833_2), .int (nI f5833_3), .int f5833_4, .int (nI f5833_5), .int f5833_6, .int f5833_7, .int f5833_8, .ref f5833_9, .int (nI f5833_10), .ref (κ w).2.2.2, .int f5833_12, .int f5833_13])), ((κ w).2.2.2, .inr (6, [.int (nI f5825_0), .int f5825_1, .int f5825_2, .null, .ref f5825_4, .ref f5825_5, .ref f5825_6, .ref f5825_7]))] [] _ _ := Bx.of (fun a => (κ a).1) hL hP (fa_c hb5833 (fa_c hb5825 fa_n)) (by simp only [List.map_cons, List.map_nil, hw.1, hsu.1]; decide)
                  refine nw_o (ci := 0) (fs := [.null, .null]) (C := RX0) (T := TX0) (N := 2) hx hb hts iX5_readStatement_0 tyX0 tyX0_ok hown (hts _ mX5_readStatement_2) (hts _ mX5_readStatement_3) (hts _ mX5_readStatement_4) hN rfl dfl0 (show 0 + 1 ≤ 3 by omega) (show 0 + 2 ≤ 618 by omega) dX5_readStatement_113 (fun q5834 H heq5834 hzq5834 hoq5834 hatq5834 => ?_)
                  have hgeq5834 : _ ≤ q5834 := Nat.le_trans hB.2.2.1 (Nat.le_of_eq heq5834.symm)
                  have hbq5834 : B0 ≤ q5834 := Nat.le_trans hb0 hgeq5834
                  have hfq5834 : (κ q5834).1 = 0 := hT.fresh hgeq5834
                  have hB := hB.nw heq5834 hzq5834 hoq5834 hatq5834 hb0
                  have hB : Bx B0 D _ [(w, .inr (5, [.ref f5833_0, .int (nI ((κ w).2.2.1)), .int (nI f5833_2), .int (nI f5833_3), .int f5833_4, .int (nI f5833_5), .int f5833_6, .int f5833_7, .int f5833_8, .ref f5833_9, .int (nI f5833_10), .ref (κ w).2.2.2, .int f5833_12, .int f5833_13])), ((κ w).2.2.2, .inr (6, [.int (nI f5825_0), .int f5825_1, .int f5825_2, .null, .ref f5825_4, .ref f5825_5, .ref f5825_6, .ref f5825_7])), (q5834, .inr (0, [.null, .null]))] [] _ _ := hB
                  refine lv_dup hx hb dX5_readStatement_116 rfl ?_
                  refine lv_aload_n hx hb dX5_readStatement_117 rfl (lv_at hl 0 rfl) ?_
                  refine va_get (D := D) (ci := 5) (v := .ref f5833_9) (C := RX5) (T := TX5) (N := 14) hx hb hts iX5_readStatement_5 hown hN.1 hB.1 0 rfl rfl 9 (by decide) (hts _ mX5_readStatement_5) (fun _ h9 => h9) rfl dX5_readStatement_118 ?_
                  refine lv_aload_n hx hb dX5_readStatement_121 rfl (lv_at hl 0 rfl) ?_
                  refine va_get (D := D) (ci := 5) (v := .int (nI f5833_10)) (C := RX5) (T := TX5) (N := 14) hx hb hts iX5_readStatement_5 hown hN.1 hB.1 0 rfl rfl 10 (by decide) (hts _ mX5_readStatement_6) (fun _ h9 => h9) rfl dX5_readStatement_122 ?_
                  have hT : WT B0 D cs T κ _ := hT.close hB trivial
                  have hF : Fr B0 [10, 11] κ H0 _ := hF.close hB fa_n
                  have hL : OkL B0 _ := hB.2.2.2.2.2
                  have hP : va_P D vwCl [(w, .inr (5, [.ref f5833_0, .int (nI ((κ w).2.2.1)), .int (nI f5833_2), .int (nI f5833_3), .int f5833_4, .int (nI f5833_5), .int f5833_6, .int f5833_7, .int f5833_8, .ref f5833_9, .int (nI f5833_10), .ref (κ w).2.2.2, .int f5833_12, .int f5833_13])), ((κ w).2.2.2, .inr (6, [.int (nI f5825_0), .int f5825_1, .int f5825_2, .null, .ref f5825_4, .ref f5825_5, .ref f5825_6, .ref f5825_7])), (q5834, .inr (0, [.null, .null]))] _ := hB.1
                  refine ci_v (As := [.ref f5833_9, .int (nI f5833_10)]) (rest := [.ref q5834, .ref (κ w).2.2.2]) (b := q5834) ⟨hx, hb, hml, hown, hts⟩ (c_X0_init hT (w := q5834) hfq5834 hbq5834 (hP 2 _ rfl) (v := f5833_9) t5833_9 (n := f5833_10) (by first | omega | decide | assumption)) (cwI 2 hts gX5_readStatement_X0_init rfl rfl rfl (hts _ mX5_readStatement_4) (hts _ mX5_readStatement_156) (hts _ mX5_readStatement_157) rfl hdX0_init_o ⟨Nat.le_of_ble_eq_true rfl, Nat.le_of_ble_eq_true rfl⟩) hN hE hL rfl rfl hl.1 (Nat.le_of_ble_eq_true rfl) dX5_readStatement_125 (show 1 + 2 ≤ 3 by omega) (show (0 + 2) + 616 ≤ 618 by omega) (fun H1 locs hL hqr5835 => ?_)
                  obtain ⟨κr5835, hxr5835, hT1, hF1, hqr5835⟩ := hqr5835
                  have hF := hF.tr (hF1.mono (by simp))
                  have hT := hT1
                  have hKF : KF κ κr5835 := hxr5835.f
                  have hKX : KX κ κr5835 := hxr5835
                  have hw := (hxr5835.f.t2 hw (by decide))
                  have hsu := (hxr5835.f.t2 hsu (by decide))
                  have hq5834 := hqr5835
                  obtain ⟨hb5836, e5836, hat5836, hk5836⟩ := hT.o7 hsu.1
                  obtain ⟨f5836_0, f5836_1, f5836_2, f5836_3, f5836_4, f5836_5, f5836_6, f5836_7, rfl, c5836_0, c5836_3, c5836_mg, t5836_4, t5836_5, t5836_6, t5836_7⟩ := hk5836
                  rw [hsu.2] at t5836_4
                  rw [hsu.2] at t5836_5
                  rw [hsu.2] at t5836_6
                  rw [hsu.2] at t5836_7
                  have hP : va_P D vwCl [((κ w).2.2.2, .inr (6, [.int (nI f5836_0), .int f5836_1, .int f5836_2, f5836_3, .ref f5836_4, .ref f5836_5, .ref f5836_6, .ref f5836_7]))] _ := va_P.cons hat5836 va_P.nil
                  have hB : Bx B0 D _ [((κ w).2.2.2, .inr (6, [.int (nI f5836_0), .int f5836_1, .int f5836_2, f5836_3, .ref f5836_4, .ref f5836_5, .ref f5836_6, .ref f5836_7]))] [] _ _ := Bx.of (fun a => (κr5835 a).1) hL hP (fa_c hb5836 fa_n) (by simp only [List.map_cons, List.map_nil, hsu.1]; decide)
                  refine b_putN (D := D) (ci := 6) (v := .ref q5834) (ty := .object "OneBeat$Formula") (C := RX6) (T := TX6) (N := 8) hx hb hts iX5_readStatement_6 tyX6 tyX6_ok nmX6 hown hN hB 0 rfl rfl 3 (by decide) (hN.f 44 rfl) (fun _ h9 => h9) rfl (by decide +kernel) rfl rfl (Nat.le_of_ble_eq_true rfl) (.inl rfl) dX5_readStatement_128 (fun H locs hB => ?_)
                  have hB : Bx B0 D _ [((κ w).2.2.2, .inr (6, [.int (nI f5836_0), .int f5836_1, .int f5836_2, .ref q5834, .ref f5836_4, .ref f5836_5, .ref f5836_6, .ref f5836_7]))] [(κ w).2.2.2] _ _ := hB
                  refine lv_iconst (v := 1) hx hb dX5_readStatement_131 (by decide) ?_
                  have hF : Fr B0 [10, 11] κ H0 _ := hF.closeN hB (fa_c (fun h9 => by rw [← (hKF _ h9).2, hsu.2]; simp) fa_n)
                  have hT : WT B0 D cs T (kp κr5835 (κ w).2.2.2 1 0) _ := hT.closeK (κ w).2.2.2 1 0 hB (by rw [hsu.1]; decide) (by rw [hsu.1]; decide) (List.mem_of_getElem? (i := 0) rfl) ⟨⟨0, _, rfl, kp_ok (ok_7 (k := ((κr5835 (κ w).2.2.2).1, (κr5835 (κ w).2.2.2).2.1, _, _)) hsu.1 ⟨_, _, _, _, _, _, _, _, rfl, (by omega), (Or.inr ⟨_, rfl, (t2kp hq5834)⟩), (Or.inr ⟨_, rfl⟩), ⟨(t2kp t5836_4).1, by rw [hsu.2]; exact (t2kp t5836_4).2⟩, ⟨(t2kp t5836_5).1, by rw [hsu.2]; exact (t2kp t5836_5).2⟩, ⟨(t2kp t5836_6).1, by rw [hsu.2]; exact (t2kp t5836_6).2⟩, ⟨(t2kp t5836_7).1, by rw [hsu.2]; exact (t2kp t5836_7).2⟩⟩)⟩, trivial⟩
                  have hL : OkL B0 _ := hB.2.2.2.2.2
                  have hsu := t2kp (x := 1) (y := 0) (a := (κ w).2.2.2) hsu
                  refine W.know (fun hg => ?_)
                  rw [hH0] at hg
                  exact en_i hx hb hr hlocks hL rfl (show 3 ≤ 3 by omega) (show ((0 + 2) + 616) ≤ 618 by omega) dX5_readStatement_132 (⟨_, (fun a h1 h2 => (kp_n h2).trans (hKX a h1)), hT, hF, hsu, Or.inr ⟨hmg1, by rw [kp_a], hg.mono (by omega) (by omega)⟩, Or.inr rfl⟩)
              · refine va_getN (D := D) (ci := 6) (v := .ref a5829) (C := RX6) (T := TX6) (N := 8) hx hb hts iX5_readStatement_6 hown hN.1 hP 0 rfl rfl 3 (by decide) (hN.f 44 rfl) (fun _ h9 => h9) rfl dX5_readStatement_89 ?_
                refine lv_ifnonnull (tgt := 133) hx hb dX5_readStatement_92 (by decide) ?_
                refine lv_aload_n hx hb dX5_readStatement_133 rfl (lv_at hl 0 rfl) ?_
                refine lv_bipush (v := (-2)) hx hb dX5_readStatement_134 (by decide) ?_
                refine lv_aload_n hx hb dX5_readStatement_136 rfl (lv_at hl 0 rfl) ?_
                refine va_get (D := D) (ci := 5) (v := .int (nI f5824_5)) (C := RX5) (T := TX5) (N := 14) hx hb hts iX5_readStatement_5 hown hN.1 hP 1 rfl rfl 5 (by decide) (hts _ mX5_readStatement_7) (fun _ h9 => h9) rfl dX5_readStatement_137 ?_
                refine cv_i (As := [.int (-2), .int (nI f5824_5)]) (rest := []) (b := w) ⟨hx, hb, hml, hown, hts⟩ (c_X5_fail hT (w := w) hw (x := (-2)) (y := (nI f5824_5))) (cwV 2 hts gX5_readStatement_X5_fail rfl rfl rfl hdX5_fail_v ⟨Nat.le_of_ble_eq_true rfl, Nat.le_of_ble_eq_true rfl⟩) hN hE hL (rcv6 hN hT hw.1) rfl rfl hl.1 (Nat.le_of_ble_eq_true rfl) dX5_readStatement_140 (Nat.zero_le _) (Nat.zero_le _) (fun r5837 H1 locs hL hqr5837 => ?_)
                obtain ⟨hT1, hF1, hqr5837⟩ := hqr5837
                have hP : va_P D vwCl [((κ w).2.2.2, .inr (6, [.int (nI f5825_0), .int f5825_1, .int f5825_2, .ref a5829, .ref f5825_4, .ref f5825_5, .ref f5825_6, .ref f5825_7]))] _ := hF1.hP (hP.sub [0] rfl) (fa_c ⟨by rw [hsu.1]; decide, by rw [hsu.2]; first | decide | (simp; done) | (simp [h15a, h15b, h15c]; done) | (simp; omega)⟩ fa_n)
                have hF := hF.tr (hF1.mono (by simp))
                have hT := hT1
                obtain rfl := hqr5837
                refine W.know (fun hg => ?_)
                rw [hH0] at hg
                exact en_i hx hb hr hlocks hL rfl (Nat.zero_le _) (Nat.zero_le _) dX5_readStatement_143 (⟨_, (fun _ _ _ => rfl), hT, hF, hsu, Or.inl ⟨rfl, hg⟩, Or.inl rfl⟩)
          · refine lv_aload_n hx hb dX5_readStatement_71 rfl (lv_at hl 0 rfl) ?_
            refine cv_i (As := []) (rest := []) (b := w) ⟨hx, hb, hml, hown, hts⟩ (c_X5_readPatience hT (w := w) hw (by first | omega | decide | assumption) (by first | omega | decide | assumption)) (cwV 0 hts gX5_readStatement_X5_readPatience rfl rfl rfl hdX5_readPatience_v ⟨Nat.le_of_ble_eq_true rfl, Nat.le_of_ble_eq_true rfl⟩) hN hE hL (rcv6 hN hT hw.1) rfl rfl hl.1 (Nat.le_of_ble_eq_true rfl) dX5_readStatement_72 (Nat.zero_le _) (Nat.zero_le _) (fun r5838 H1 locs hL hqr5838 => ?_)
            obtain ⟨hT1, hF1, hqr5838⟩ := hqr5838
            have hF := hF.tr (hF1.mono (by simp))
            have hT := hT1
            rcases hqr5838 with rfl | rfl
            · refine W.know (fun hg => ?_)
              rw [hH0] at hg
              exact en_i hx hb hr hlocks hL rfl (Nat.zero_le _) (Nat.zero_le _) dX5_readStatement_75 (⟨_, (fun _ _ _ => rfl), hT, hF, hsu, Or.inl ⟨rfl, hg⟩, Or.inl rfl⟩)
            · refine W.know (fun hg => ?_)
              rw [hH0] at hg
              exact en_i hx hb hr hlocks hL rfl (Nat.zero_le _) (Nat.zero_le _) dX5_readStatement_75 (⟨_, (fun _ _ _ => rfl), hT, hF, hsu, Or.inl ⟨rfl, hg⟩, Or.inr rfl⟩)
      · refine lv_if_eq (tgt := 52) hx hb dX5_readStatement_34 (by decide) (fun c9 => absurd c9 (by decide)) (fun _ => ?_)
        refine lv_aload_n hx hb dX5_readStatement_37 rfl (lv_at hl 0 rfl) ?_
        obtain ⟨hb5839, e5839, hat5839, hk5839⟩ := hT.o6 hw.1
        obtain ⟨f5839_0, f5839_2, f5839_3, f5839_4, f5839_5, f5839_6, f5839_7, f5839_8, f5839_9, f5839_10, f5839_11, f5839_12, f5839_13, rfl, c5839_1, c5839_2, c5839_3, c5839_5, c5839_10, t5839_0, t5839_9, c5839_11, c5839_p2⟩ := hk5839
        obtain rfl : f5839_11 = .ref (κ w).2.2.2 := c5839_p2.resolve_left hs0
        have hP : va_P D vwCl [(w, .inr (5, [.ref f5839_0, .int (nI ((κ w).2.2.1)), .int (nI f5839_2), .int (nI f5839_3), .int f5839_4, .int (nI f5839_5), .int f5839_6, .int f5839_7, .int f5839_8, .ref f5839_9, .int (nI f5839_10), .ref (κ w).2.2.2, .int f5839_12, .int f5839_13]))] _ := va_P.cons hat5839 va_P.nil
        refine va_get (D := D) (ci := 5) (v := .ref (κ w).2.2.2) (C := RX5) (T := TX5) (N := 14) hx hb hts iX5_readStatement_5 hown hN.1 hP 0 rfl rfl 11 (by decide) (hts _ mX5_readStatement_1) (fun _ h9 => h9) rfl dX5_readStatement_38 ?_
        obtain ⟨hb5840, e5840, hat5840, hk5840⟩ := hT.o7 hsu.1
        obtain ⟨f5840_0, f5840_1, f5840_2, f5840_3, f5840_4, f5840_5, f5840_6, f5840_7, rfl, c5840_0, c5840_3, c5840_mg, t5840_4, t5840_5, t5840_6, t5840_7⟩ := hk5840
        rw [hsu.2] at t5840_4
        rw [hsu.2] at t5840_5
        rw [hsu.2] at t5840_6
        rw [hsu.2] at t5840_7
        have hP : va_P D vwCl [((κ w).2.2.2, .inr (6, [.int (nI f5840_0), .int f5840_1, .int f5840_2, f5840_3, .ref f5840_4, .ref f5840_5, .ref f5840_6, .ref f5840_7])), (w, .inr (5, [.ref f5839_0, .int (nI ((κ w).2.2.1)), .int (nI f5839_2), .int (nI f5839_3), .int f5839_4, .int (nI f5839_5), .int f5839_6, .int f5839_7, .int f5839_8, .ref f5839_9, .int (nI f5839_10), .ref (κ w).2.2.2, .int f5839_12, .int f5839_13]))] _ := va_P.cons hat5840 hP
        refine va_getN (D := D) (ci := 6) (v := .int f5840_1) (C := RX6) (T := TX6) (N := 8) hx hb hts iX5_readStatement_6 hown hN.1 hP 0 rfl rfl 1 (by decide) (hN.f 40 rfl) (fun _ h9 => h9) rfl dX5_readStatement_41 ?_
        refine lv_if_ne (tgt := 52) hx hb dX5_readStatement_44 (by decide) (fun c5841 => ?_) (fun c5841 => ?_)
        · refine lv_aload_n hx hb dX5_readStatement_52 rfl (lv_at hl 0 rfl) ?_
          refine va_ldcS hx hb hown (hN.s 5 rfl) dX5_readStatement_53 ?_
          refine cv_i (As := [.ref (cs 105)]) (rest := []) (b := w) ⟨hx, hb, hml, hown, hts⟩ (c_X5_isWord hT (w := w) hw (i := 5) (by decide)) (cwV 1 hts gX5_readStatement_X5_isWord rfl rfl rfl hdX5_isWord_v ⟨Nat.le_of_ble_eq_true rfl, Nat.le_of_ble_eq_true rfl⟩) hN hE hL (rcv6 hN hT hw.1) rfl rfl hl.1 (Nat.le_of_ble_eq_true rfl) dX5_readStatement_55 (Nat.zero_le _) (Nat.zero_le _) (fun r5842 H1 locs hL hqr5842 => ?_)
          obtain ⟨h9, hqr5842⟩ := hqr5842; replace h9 := h9.symm; subst h9
          rcases hqr5842 with rfl | rfl
          · refine lv_if_eq (tgt := 76) hx hb dX5_readStatement_58 (by decide) (fun _ => ?_) (fun c9 => absurd (by decide) c9)
            refine lv_aload_n hx hb dX5_readStatement_76 rfl (lv_at hl 0 rfl) ?_
            refine va_ldcS hx hb hown (hN.s 6 rfl) dX5_readStatement_77 ?_
            refine cv_i (As := [.ref (cs 106)]) (rest := []) (b := w) ⟨hx, hb, hml, hown, hts⟩ (c_X5_isWord hT (w := w) hw (i := 6) (by decide)) (cwV 1 hts gX5_readStatement_X5_isWord rfl rfl rfl hdX5_isWord_v ⟨Nat.le_of_ble_eq_true rfl, Nat.le_of_ble_eq_true rfl⟩) hN hE hL (rcv6 hN hT hw.1) rfl rfl hl.1 (Nat.le_of_ble_eq_true rfl) dX5_readStatement_79 (Nat.zero_le _) (Nat.zero_le _) (fun r5843 H1 locs hL hqr5843 => ?_)
            obtain ⟨h9, hqr5843⟩ := hqr5843; replace h9 := h9.symm; subst h9
            rcases hqr5843 with rfl | rfl
            · refine lv_if_eq (tgt := 133) hx hb dX5_readStatement_82 (by decide) (fun _ => ?_) (fun c9 => absurd (by decide) c9)
              refine lv_aload_n hx hb dX5_readStatement_133 rfl (lv_at hl 0 rfl) ?_
              refine lv_bipush (v := (-2)) hx hb dX5_readStatement_134 (by decide) ?_
              refine lv_aload_n hx hb dX5_readStatement_136 rfl (lv_at hl 0 rfl) ?_
              refine va_get (D := D) (ci := 5) (v := .int (nI f5839_5)) (C := RX5) (T := TX5) (N := 14) hx hb hts iX5_readStatement_5 hown hN.1 hP 1 rfl rfl 5 (by decide) (hts _ mX5_readStatement_7) (fun _ h9 => h9) rfl dX5_readStatement_137 ?_
              refine cv_i (As := [.int (-2), .int (nI f5839_5)]) (rest := []) (b := w) ⟨hx, hb, hml, hown, hts⟩ (c_X5_fail hT (w := w) hw (x := (-2)) (y := (nI f5839_5))) (cwV 2 hts gX5_readStatement_X5_fail rfl rfl rfl hdX5_fail_v ⟨Nat.le_of_ble_eq_true rfl, Nat.le_of_ble_eq_true rfl⟩) hN hE hL (rcv6 hN hT hw.1) rfl rfl hl.1 (Nat.le_of_ble_eq_true rfl) dX5_readStatement_140 (Nat.zero_le _) (Nat.zero_le _) (fun r5844 H1 locs hL hqr5844 => ?_)
              obtain ⟨hT1, hF1, hqr5844⟩ := hqr5844
              have hP : va_P D vwCl [((κ w).2.2.2, .inr (6, [.int (nI f5840_0), .int f5840_1, .int f5840_2, f5840_3, .ref f5840_4, .ref f5840_5, .ref f5840_6, .ref f5840_7]))] _ := hF1.hP (hP.sub [0] rfl) (fa_c ⟨by rw [hsu.1]; decide, by rw [hsu.2]; first | decide | (simp; done) | (simp [h15a, h15b, h15c]; done) | (simp; omega)⟩ fa_n)
              have hF := hF.tr (hF1.mono (by simp))
              have hT := hT1
              obtain rfl := hqr5844
              refine W.know (fun hg => ?_)
              rw [hH0] at hg
              exact en_i hx hb hr hlocks hL rfl (Nat.zero_le _) (Nat.zero_le _) dX5_readStatement_143 (⟨_, (fun _ _ _ => rfl), hT, hF, hsu, Or.inl ⟨rfl, hg⟩, Or.inl rfl⟩)
            · refine lv_if_eq (tgt := 133) hx hb dX5_readStatement_82 (by decide) (fun c9 => absurd c9 (by decide)) (fun _ => ?_)
              refine lv_aload_n hx hb dX5_readStatement_85 rfl (lv_at hl 0 rfl) ?_
              refine va_get (D := D) (ci := 5) (v := .ref (κ w).2.2.2) (C := RX5) (T := TX5) (N := 14) hx hb hts iX5_readStatement_5 hown hN.1 hP 1 rfl rfl 11 (by decide) (hts _ mX5_readStatement_1) (fun _ h9 => h9) rfl dX5_readStatement_86 ?_
              rcases c5840_3 with rfl | ⟨a5845, rfl, ta5845⟩
              · refine va_getN (D := D) (ci := 6) (v := .null) (C := RX6) (T := TX6) (N := 8) hx hb hts iX5_readStatement_6 hown hN.1 hP 0 rfl rfl 3 (by decide) (hN.f 44 rfl) (fun _ h9 => h9) rfl dX5_readStatement_89 ?_
                refine lv_ifnonnullN hx hb dX5_readStatement_92 ?_
                have hmg1 : (κ (κ w).2.2.2).2.2.1 ≠ 1 := (c5840_mg).resolve_right (by rintro ⟨_, h9⟩; cases h9)
                refine lv_aload_n hx hb dX5_readStatement_95 rfl (lv_at hl 0 rfl) ?_
                refine cv_v (As := []) (rest := []) (b := w) ⟨hx, hb, hml, hown, hts⟩ (c_X5_step hT (w := w) hw) (cwV 0 hts gX5_readStatement_X5_step rfl rfl rfl hdX5_step_v ⟨Nat.le_of_ble_eq_true rfl, Nat.le_of_ble_eq_true rfl⟩) hN hE hL (rcv6 hN hT hw.1) rfl rfl hl.1 (Nat.le_of_ble_eq_true rfl) dX5_readStatement_96 (Nat.zero_le _) (Nat.zero_le _) (fun H1 locs hL hqr5846 => ?_)
                obtain ⟨hT1, hF1, hqr5846⟩ := hqr5846
                have hP : va_P D vwCl [((κ w).2.2.2, .inr (6, [.int (nI f5840_0), .int f5840_1, .int f5840_2, .null, .ref f5840_4, .ref f5840_5, .ref f5840_6, .ref f5840_7]))] _ := hF1.hP (hP.sub [0] rfl) (fa_c ⟨by rw [hsu.1]; decide, by rw [hsu.2]; first | decide | (simp; done) | (simp [h15a, h15b, h15c]; done) | (simp; omega)⟩ fa_n)
                have hF := hF.tr (hF1.mono (by simp))
                have hT := hT1
                have f5847 := hqr5846
                refine lv_aload_n hx hb dX5_readStatement_99 rfl (lv_at hl 0 rfl) ?_
                refine lv_iconst (v := 0) hx hb dX5_readStatement_100 (by decide) ?_
                refine cv_i (As := [.int 0]) (rest := []) (b := w) ⟨hx, hb, hml, hown, hts⟩ (c_X5_readSum_d0 hT (w := w) hw) (cwV 1 hts gX5_readStatement_X5_readSum rfl rfl rfl hdX5_readSum_v ⟨Nat.le_of_ble_eq_true rfl, Nat.le_of_ble_eq_true rfl⟩) hN hE hL (rcv6 hN hT hw.1) rfl rfl hl.1 (Nat.le_of_ble_eq_true rfl) dX5_readStatement_101 (Nat.zero_le _) (Nat.zero_le _) (fun r5848 H1 locs hL hqr5848 => ?_)
                obtain ⟨hT1, hF1, hqr5848⟩ := hqr5848
                have hP : va_P D vwCl [((κ w).2.2.2, .inr (6, [.int (nI f5840_0), .int f5840_1, .int f5840_2, .null, .ref f5840_4, .ref f5840_5, .ref f5840_6, .ref f5840_7]))] _ := hF1.hP (hP.sub [0] rfl) (fa_c ⟨by rw [hsu.1]; decide, by rw [hsu.2]; first | decide | (simp; done) | (simp [h15a, h15b, h15c]; done) | (simp; omega)⟩ fa_n)
                have hF := hF.tr (hF1.mono (by simp))
                have hT := hT1
                rcases hqr5848 with rfl | rfl
                · refine lv_if_ne (tgt := 109) hx hb dX5_readStatement_104 (by decide) (fun c9 => absurd (by decide) c9) (fun _ => ?_)
                  refine lv_iconst (v := 0) hx hb dX5_readStatement_107 (by decide) ?_
                  refine W.know (fun hg => ?_)
                  rw [hH0] at hg
                  exact en_i hx hb hr hlocks hL rfl (Nat.zero_le _) (Nat.zero_le _) dX5_readStatement_108 (⟨_, (fun _ _ _ => rfl), hT, hF, hsu, Or.inl ⟨rfl, hg⟩, Or.inl rfl⟩)
                · refine lv_if_ne (tgt := 109) hx hb dX5_readStatement_104 (by decide) (fun _ => ?_) (fun c9 => absurd c9 (by decide))
                  refine lv_aload_n hx hb dX5_readStatement_109 rfl (lv_at hl 0 rfl) ?_
                  obtain ⟨hb5849, e5849, hat5849, hk5849⟩ := hT.o6 hw.1
                  obtain ⟨f5849_0, f5849_2, f5849_3, f5849_4, f5849_5, f5849_6, f5849_7, f5849_8, f5849_9, f5849_10, f5849_11, f5849_12, f5849_13, rfl, c5849_1, c5849_2, c5849_3, c5849_5, c5849_10, t5849_0, t5849_9, c5849_11, c5849_p2⟩ := hk5849
                  obtain rfl : f5849_11 = .ref (κ w).2.2.2 := c5849_p2.resolve_left hs0
                  have hP : va_P D vwCl [(w, .inr (5, [.ref f5849_0, .int (nI ((κ w).2.2.1)), .int (nI f5849_2), .int (nI f5849_3), .int f5849_4, .int (nI f5849_5), .int f5849_6, .int f5849_7, .int f5849_8, .ref f5849_9, .int (nI f5849_10), .ref (κ w).2.2.2, .int f5849_12, .int f5849_13])), ((κ w).2.2.2, .inr (6, [.int (nI f5840_0), .int f5840_1, .int f5840_2, .null, .ref f5840_4, .ref f5840_5, .ref f5840_6, .ref f5840_7]))] _ := va_P.cons hat5849 hP
                  refine va_get (D := D) (ci := 5) (v := .ref (κ w).2.2.2) (C := RX5) (T := TX5) (N := 14) hx hb hts iX5_readStatement_5 hown hN.1 hP 0 rfl rfl 11 (by decide) (hts _ mX5_readStatement_1) (fun _ h9 => h9) rfl dX5_readStatement_110 ?_
                  have hb0 : B0 ≤ _ := hT.b0 hw (by decide)
                  have hB : Bx B0 D _ [(w, .inr (5, [.ref f5849_0, .int (nI ((κ w).2.2.1)), .int (nI f5849_2), .int (nI f5849_3), .int f5849_4, .int (nI f5849_5), .int f5849_6, .int f5849_7, .int f5849_8, .ref f5849_9, .int (nI f5849_10), .ref (κ w).2.2.2, .int f5849_12, .int f5849_13])), ((κ w).2.2.2, .inr (6, [.int (nI f5840_0), .int f5840_1, .int f5840_2, .null, .ref f5840_4, .ref f5840_5, .ref f5840_6, .ref f5840_7]))] [] _ _ := Bx.of (fun a => (κ a).1) hL hP (fa_c hb5849 (fa_c hb5840 fa_n)) (by simp only [List.map_cons, List.map_nil, hw.1, hsu.1]; decide)
                  refine nw_o (ci := 0) (fs := [.null, .null]) (C := RX0) (T := TX0) (N := 2) hx hb hts iX5_readStatement_0 tyX0 tyX0_ok hown (hts _ mX5_readStatement_2) (hts _ mX5_readStatement_3) (hts _ mX5_readStatement_4) hN rfl dfl0 (show 0 + 1 ≤ 3 by omega) (show 0 + 2 ≤ 618 by omega) dX5_readStatement_113 (fun q5850 H heq5850 hzq5850 hoq5850 hatq5850 => ?_)
                  have hgeq5850 : _ ≤ q5850 := Nat.le_trans hB.2.2.1 (Nat.le_of_eq heq5850.symm)
                  have hbq5850 : B0 ≤ q5850 := Nat.le_trans hb0 hgeq5850
                  have hfq5850 : (κ q5850).1 = 0 := hT.fresh hgeq5850
                  have hB := hB.nw heq5850 hzq5850 hoq5850 hatq5850 hb0
                  have hB : Bx B0 D _ [(w, .inr (5, [.ref f5849_0, .int (nI ((κ w).2.2.1)), .int (nI f5849_2), .int (nI f5849_3), .int f5849_4, .int (nI f5849_5), .int f5849_6, .int f5849_7, .int f5849_8, .ref f5849_9, .int (nI f5849_10), .ref (κ w).2.2.2, .int f5849_12, .int f5849_13])), ((κ w).2.2.2, .inr (6, [.int (nI f5840_0), .int f5840_1, .int f5840_2, .null, .ref f5840_4, .ref f5840_5, .ref f5840_6, .ref f5840_7])), (q5850, .inr (0, [.null, .null]))] [] _ _ := hB
                  refine lv_dup hx hb dX5_readStatement_116 rfl ?_
                  refine lv_aload_n hx hb dX5_readStatement_117 rfl (lv_at hl 0 rfl) ?_
                  refine va_get (D := D) (ci := 5) (v := .ref f5849_9) (C := RX5) (T := TX5) (N := 14) hx hb hts iX5_readStatement_5 hown hN.1 hB.1 0 rfl rfl 9 (by decide) (hts _ mX5_readStatement_5) (fun _ h9 => h9) rfl dX5_readStatement_118 ?_
                  refine lv_aload_n hx hb dX5_readStatement_121 rfl (lv_at hl 0 rfl) ?_
                  refine va_get (D := D) (ci := 5) (v := .int (nI f5849_10)) (C := RX5) (T := TX5) (N := 14) hx hb hts iX5_readStatement_5 hown hN.1 hB.1 0 rfl rfl 10 (by decide) (hts _ mX5_readStatement_6) (fun _ h9 => h9) rfl dX5_readStatement_122 ?_
                  have hT : WT B0 D cs T κ _ := hT.close hB trivial
                  have hF : Fr B0 [10, 11] κ H0 _ := hF.close hB fa_n
                  have hL : OkL B0 _ := hB.2.2.2.2.2
                  have hP : va_P D vwCl [(w, .inr (5, [.ref f5849_0, .int (nI ((κ w).2.2.1)), .int (nI f5849_2), .int (nI f5849_3), .int f5849_4, .int (nI f5849_5), .int f5849_6, .int f5849_7, .int f5849_8, .ref f5849_9, .int (nI f5849_10), .ref (κ w).2.2.2, .int f5849_12, .int f5849_13])), ((κ w).2.2.2, .inr (6, [.int (nI f5840_0), .int f5840_1, .int f5840_2, .null, .ref f5840_4, .ref f5840_5, .ref f5840_6, .ref f5840_7])), (q5850, .inr (0, [.null, .null]))] _ := hB.1
                  refine ci_v (As := [.ref f5849_9, .int (nI f5849_10)]) (rest := [.ref q5850, .ref (κ w).2.2.2]) (b := q5850) ⟨hx, hb, hml, hown, hts⟩ (c_X0_init hT (w := q5850) hfq5850 hbq5850 (hP 2 _ rfl) (v := f5849_9) t5849_9 (n := f5849_10) (by first | omega | decide | assumption)) (cwI 2 hts gX5_readStatement_X0_init rfl rfl rfl (hts _ mX5_readStatement_4) (hts _ mX5_readStatement_156) (hts _ mX5_readStatement_157) rfl hdX0_init_o ⟨Nat.le_of_ble_eq_true rfl, Nat.le_of_ble_eq_true rfl⟩) hN hE hL rfl rfl hl.1 (Nat.le_of_ble_eq_true rfl) dX5_readStatement_125 (show 1 + 2 ≤ 3 by omega) (show (0 + 2) + 616 ≤ 618 by omega) (fun H1 locs hL hqr5851 => ?_)
                  obtain ⟨κr5851, hxr5851, hT1, hF1, hqr5851⟩ := hqr5851
                  have hF := hF.tr (hF1.mono (by simp))
                  have hT := hT1
                  have hKF : KF κ κr5851 := hxr5851.f
                  have hKX : KX κ κr5851 := hxr5851
                  have hw := (hxr5851.f.t2 hw (by decide))
                  have hsu := (hxr5851.f.t2 hsu (by decide))
                  have hq5850 := hqr5851
                  obtain ⟨hb5852, e5852, hat5852, hk5852⟩ := hT.o7 hsu.1
                  obtain ⟨f5852_0, f5852_1, f5852_2, f5852_3, f5852_4, f5852_5, f5852_6, f5852_7, rfl, c5852_0, c5852_3, c5852_mg, t5852_4, t5852_5, t5852_6, t5852_7⟩ := hk5852
                  rw [hsu.2] at t5852_4
                  rw [hsu.2] at t5852_5
                  rw [hsu.2] at t5852_6
                  rw [hsu.2] at t5852_7
                  have hP : va_P D vwCl [((κ w).2.2.2, .inr (6, [.int (nI f5852_0), .int f5852_1, .int f5852_2, f5852_3, .ref f5852_4, .ref f5852_5, .ref f5852_6, .ref f5852_7]))] _ := va_P.cons hat5852 va_P.nil
                  have hB : Bx B0 D _ [((κ w).2.2.2, .inr (6, [.int (nI f5852_0), .int f5852_1, .int f5852_2, f5852_3, .ref f5852_4, .ref f5852_5, .ref f5852_6, .ref f5852_7]))] [] _ _ := Bx.of (fun a => (κr5851 a).1) hL hP (fa_c hb5852 fa_n) (by simp only [List.map_cons, List.map_nil, hsu.1]; decide)
                  refine b_putN (D := D) (ci := 6) (v := .ref q5850) (ty := .object "OneBeat$Formula") (C := RX6) (T := TX6) (N := 8) hx hb hts iX5_readStatement_6 tyX6 tyX6_ok nmX6 hown hN hB 0 rfl rfl 3 (by decide) (hN.f 44 rfl) (fun _ h9 => h9) rfl (by decide +kernel) rfl rfl (Nat.le_of_ble_eq_true rfl) (.inl rfl) dX5_readStatement_128 (fun H locs hB => ?_)
                  have hB : Bx B0 D _ [((κ w).2.2.2, .inr (6, [.int (nI f5852_0), .int f5852_1, .int f5852_2, .ref q5850, .ref f5852_4, .ref f5852_5, .ref f5852_6, .ref f5852_7]))] [(κ w).2.2.2] _ _ := hB
                  refine lv_iconst (v := 1) hx hb dX5_readStatement_131 (by decide) ?_
                  have hF : Fr B0 [10, 11] κ H0 _ := hF.closeN hB (fa_c (fun h9 => by rw [← (hKF _ h9).2, hsu.2]; simp) fa_n)
                  have hT : WT B0 D cs T (kp κr5851 (κ w).2.2.2 1 0) _ := hT.closeK (κ w).2.2.2 1 0 hB (by rw [hsu.1]; decide) (by rw [hsu.1]; decide) (List.mem_of_getElem? (i := 0) rfl) ⟨⟨0, _, rfl, kp_ok (ok_7 (k := ((κr5851 (κ w).2.2.2).1, (κr5851 (κ w).2.2.2).2.1, _, _)) hsu.1 ⟨_, _, _, _, _, _, _, _, rfl, (by omega), (Or.inr ⟨_, rfl, (t2kp hq5850)⟩), (Or.inr ⟨_, rfl⟩), ⟨(t2kp t5852_4).1, by rw [hsu.2]; exact (t2kp t5852_4).2⟩, ⟨(t2kp t5852_5).1, by rw [hsu.2]; exact (t2kp t5852_5).2⟩, ⟨(t2kp t5852_6).1, by rw [hsu.2]; exact (t2kp t5852_6).2⟩, ⟨(t2kp t5852_7).1, by rw [hsu.2]; exact (t2kp t5852_7).2⟩⟩)⟩, trivial⟩
                  have hL : OkL B0 _ := hB.2.2.2.2.2
                  have hsu := t2kp (x := 1) (y := 0) (a := (κ w).2.2.2) hsu
                  refine W.know (fun hg => ?_)
                  rw [hH0] at hg
                  exact en_i hx hb hr hlocks hL rfl (show 3 ≤ 3 by omega) (show ((0 + 2) + 616) ≤ 618 by omega) dX5_readStatement_132 (⟨_, (fun a h1 h2 => (kp_n h2).trans (hKX a h1)), hT, hF, hsu, Or.inr ⟨hmg1, by rw [kp_a], hg.mono (by omega) (by omega)⟩, Or.inr rfl⟩)
              · refine va_getN (D := D) (ci := 6) (v := .ref a5845) (C := RX6) (T := TX6) (N := 8) hx hb hts iX5_readStatement_6 hown hN.1 hP 0 rfl rfl 3 (by decide) (hN.f 44 rfl) (fun _ h9 => h9) rfl dX5_readStatement_89 ?_
                refine lv_ifnonnull (tgt := 133) hx hb dX5_readStatement_92 (by decide) ?_
                refine lv_aload_n hx hb dX5_readStatement_133 rfl (lv_at hl 0 rfl) ?_
                refine lv_bipush (v := (-2)) hx hb dX5_readStatement_134 (by decide) ?_
                refine lv_aload_n hx hb dX5_readStatement_136 rfl (lv_at hl 0 rfl) ?_
                refine va_get (D := D) (ci := 5) (v := .int (nI f5839_5)) (C := RX5) (T := TX5) (N := 14) hx hb hts iX5_readStatement_5 hown hN.1 hP 1 rfl rfl 5 (by decide) (hts _ mX5_readStatement_7) (fun _ h9 => h9) rfl dX5_readStatement_137 ?_
                refine cv_i (As := [.int (-2), .int (nI f5839_5)]) (rest := []) (b := w) ⟨hx, hb, hml, hown, hts⟩ (c_X5_fail hT (w := w) hw (x := (-2)) (y := (nI f5839_5))) (cwV 2 hts gX5_readStatement_X5_fail rfl rfl rfl hdX5_fail_v ⟨Nat.le_of_ble_eq_true rfl, Nat.le_of_ble_eq_true rfl⟩) hN hE hL (rcv6 hN hT hw.1) rfl rfl hl.1 (Nat.le_of_ble_eq_true rfl) dX5_readStatement_140 (Nat.zero_le _) (Nat.zero_le _) (fun r5853 H1 locs hL hqr5853 => ?_)
                obtain ⟨hT1, hF1, hqr5853⟩ := hqr5853
                have hP : va_P D vwCl [((κ w).2.2.2, .inr (6, [.int (nI f5840_0), .int f5840_1, .int f5840_2, .ref a5845, .ref f5840_4, .ref f5840_5, .ref f5840_6, .ref f5840_7]))] _ := hF1.hP (hP.sub [0] rfl) (fa_c ⟨by rw [hsu.1]; decide, by rw [hsu.2]; first | decide | (simp; done) | (simp [h15a, h15b, h15c]; done) | (simp; omega)⟩ fa_n)
                have hF := hF.tr (hF1.mono (by simp))
                have hT := hT1
                obtain rfl := hqr5853
                refine W.know (fun hg => ?_)
                rw [hH0] at hg
                exact en_i hx hb hr hlocks hL rfl (Nat.zero_le _) (Nat.zero_le _) dX5_readStatement_143 (⟨_, (fun _ _ _ => rfl), hT, hF, hsu, Or.inl ⟨rfl, hg⟩, Or.inl rfl⟩)
          · refine lv_if_eq (tgt := 76) hx hb dX5_readStatement_58 (by decide) (fun c9 => absurd c9 (by decide)) (fun _ => ?_)
            refine lv_aload_n hx hb dX5_readStatement_61 rfl (lv_at hl 0 rfl) ?_
            refine va_get (D := D) (ci := 5) (v := .ref (κ w).2.2.2) (C := RX5) (T := TX5) (N := 14) hx hb hts iX5_readStatement_5 hown hN.1 hP 1 rfl rfl 11 (by decide) (hts _ mX5_readStatement_1) (fun _ h9 => h9) rfl dX5_readStatement_62 ?_
            refine va_getN (D := D) (ci := 6) (v := .int f5840_2) (C := RX6) (T := TX6) (N := 8) hx hb hts iX5_readStatement_6 hown hN.1 hP 0 rfl rfl 2 (by decide) (hN.f 42 rfl) (fun _ h9 => h9) rfl dX5_readStatement_65 ?_
            refine lv_if_ne (tgt := 76) hx hb dX5_readStatement_68 (by decide) (fun c5854 => ?_) (fun c5854 => ?_)
            · refine lv_aload_n hx hb dX5_readStatement_76 rfl (lv_at hl 0 rfl) ?_
              refine va_ldcS hx hb hown (hN.s 6 rfl) dX5_readStatement_77 ?_
              refine cv_i (As := [.ref (cs 106)]) (rest := []) (b := w) ⟨hx, hb, hml, hown, hts⟩ (c_X5_isWord hT (w := w) hw (i := 6) (by decide)) (cwV 1 hts gX5_readStatement_X5_isWord rfl rfl rfl hdX5_isWord_v ⟨Nat.le_of_ble_eq_true rfl, Nat.le_of_ble_eq_true rfl⟩) hN hE hL (rcv6 hN hT hw.1) rfl rfl hl.1 (Nat.le_of_ble_eq_true rfl) dX5_readStatement_79 (Nat.zero_le _) (Nat.zero_le _) (fun r5855 H1 locs hL hqr5855 => ?_)
              obtain ⟨h9, hqr5855⟩ := hqr5855; replace h9 := h9.symm; subst h9
              rcases hqr5855 with rfl | rfl
              · refine lv_if_eq (tgt := 133) hx hb dX5_readStatement_82 (by decide) (fun _ => ?_) (fun c9 => absurd (by decide) c9)
                refine lv_aload_n hx hb dX5_readStatement_133 rfl (lv_at hl 0 rfl) ?_
                refine lv_bipush (v := (-2)) hx hb dX5_readStatement_134 (by decide) ?_
                refine lv_aload_n hx hb dX5_readStatement_136 rfl (lv_at hl 0 rfl) ?_
                refine va_get (D := D) (ci := 5) (v := .int (nI f5839_5)) (C := RX5) (T := TX5) (N := 14) hx hb hts iX5_readStatement_5 hown hN.1 hP 1 rfl rfl 5 (by decide) (hts _ mX5_readStatement_7) (fun _ h9 => h9) rfl dX5_readStatement_137 ?_
                refine cv_i (As := [.int (-2), .int (nI f5839_5)]) (rest := []) (b := w) ⟨hx, hb, hml, hown, hts⟩ (c_X5_fail hT (w := w) hw (x := (-2)) (y := (nI f5839_5))) (cwV 2 hts gX5_readStatement_X5_fail rfl rfl rfl hdX5_fail_v ⟨Nat.le_of_ble_eq_true rfl, Nat.le_of_ble_eq_true rfl⟩) hN hE hL (rcv6 hN hT hw.1) rfl rfl hl.1 (Nat.le_of_ble_eq_true rfl) dX5_readStatement_140 (Nat.zero_le _) (Nat.zero_le _) (fun r5856 H1 locs hL hqr5856 => ?_)
                obtain ⟨hT1, hF1, hqr5856⟩ := hqr5856
                have hP : va_P D vwCl [((κ w).2.2.2, .inr (6, [.int (nI f5840_0), .int f5840_1, .int f5840_2, f5840_3, .ref f5840_4, .ref f5840_5, .ref f5840_6, .ref f5840_7]))] _ := hF1.hP (hP.sub [0] rfl) (fa_c ⟨by rw [hsu.1]; decide, by rw [hsu.2]; first | decide | (simp; done) | (simp [h15a, h15b, h15c]; done) | (simp; omega)⟩ fa_n)
                have hF := hF.tr (hF1.mono (by simp))
                have hT := hT1
                obtain rfl := hqr5856
                refine W.know (fun hg => ?_)
                rw [hH0] at hg
                exact en_i hx hb hr hlocks hL rfl (Nat.zero_le _) (Nat.zero_le _) dX5_readStatement_143 (⟨_, (fun _ _ _ => rfl), hT, hF, hsu, Or.inl ⟨rfl, hg⟩, Or.inl rfl⟩)
              · refine lv_if_eq (tgt := 133) hx hb dX5_readStatement_82 (by decide) (fun c9 => absurd c9 (by decide)) (fun _ => ?_)
                refine lv_aload_n hx hb dX5_readStatement_85 rfl (lv_at hl 0 rfl) ?_
                refine va_get (D := D) (ci := 5) (v := .ref (κ w).2.2.2) (C := RX5) (T := TX5) (N := 14) hx hb hts iX5_readStatement_5 hown hN.1 hP 1 rfl rfl 11 (by decide) (hts _ mX5_readStatement_1) (fun _ h9 => h9) rfl dX5_readStatement_86 ?_
                rcases c5840_3 with rfl | ⟨a5857, rfl, ta5857⟩
                · refine va_getN (D := D) (ci := 6) (v := .null) (C := RX6) (T := TX6) (N := 8) hx hb hts iX5_readStatement_6 hown hN.1 hP 0 rfl rfl 3 (by decide) (hN.f 44 rfl) (fun _ h9 => h9) rfl dX5_readStatement_89 ?_
                  refine lv_ifnonnullN hx hb dX5_readStatement_92 ?_
                  have hmg1 : (κ (κ w).2.2.2).2.2.1 ≠ 1 := (c5840_mg).resolve_right (by rintro ⟨_, h9⟩; cases h9)
                  refine lv_aload_n hx hb dX5_readStatement_95 rfl (lv_at hl 0 rfl) ?_
                  refine cv_v (As := []) (rest := []) (b := w) ⟨hx, hb, hml, hown, hts⟩ (c_X5_step hT (w := w) hw) (cwV 0 hts gX5_readStatement_X5_step rfl rfl rfl hdX5_step_v ⟨Nat.le_of_ble_eq_true rfl, Nat.le_of_ble_eq_true rfl⟩) hN hE hL (rcv6 hN hT hw.1) rfl rfl hl.1 (Nat.le_of_ble_eq_true rfl) dX5_readStatement_96 (Nat.zero_le _) (Nat.zero_le _) (fun H1 locs hL hqr5858 => ?_)
                  obtain ⟨hT1, hF1, hqr5858⟩ := hqr5858
                  have hP : va_P D vwCl [((κ w).2.2.2, .inr (6, [.int (nI f5840_0), .int f5840_1, .int f5840_2, .null, .ref f5840_4, .ref f5840_5, .ref f5840_6, .ref f5840_7]))] _ := hF1.hP (hP.sub [0] rfl) (fa_c ⟨by rw [hsu.1]; decide, by rw [hsu.2]; first | decide | (simp; done) | (simp [h15a, h15b, h15c]; done) | (simp; omega)⟩ fa_n)
                  have hF := hF.tr (hF1.mono (by simp))
                  have hT := hT1
                  have f5859 := hqr5858
                  refine lv_aload_n hx hb dX5_readStatement_99 rfl (lv_at hl 0 rfl) ?_
                  refine lv_iconst (v := 0) hx hb dX5_readStatement_100 (by decide) ?_
                  refine cv_i (As := [.int 0]) (rest := []) (b := w) ⟨hx, hb, hml, hown, hts⟩ (c_X5_readSum_d0 hT (w := w) hw) (cwV 1 hts gX5_readStatement_X5_readSum rfl rfl rfl hdX5_readSum_v ⟨Nat.le_of_ble_eq_true rfl, Nat.le_of_ble_eq_true rfl⟩) hN hE hL (rcv6 hN hT hw.1) rfl rfl hl.1 (Nat.le_of_ble_eq_true rfl) dX5_readStatement_101 (Nat.zero_le _) (Nat.zero_le _) (fun r5860 H1 locs hL hqr5860 => ?_)
                  obtain ⟨hT1, hF1, hqr5860⟩ := hqr5860
                  have hP : va_P D vwCl [((κ w).2.2.2, .inr (6, [.int (nI f5840_0), .int f5840_1, .int f5840_2, .null, .ref f5840_4, .ref f5840_5, .ref f5840_6, .ref f5840_7]))] _ := hF1.hP (hP.sub [0] rfl) (fa_c ⟨by rw [hsu.1]; decide, by rw [hsu.2]; first | decide | (simp; done) | (simp [h15a, h15b, h15c]; done) | (simp; omega)⟩ fa_n)
                  have hF := hF.tr (hF1.mono (by simp))
                  have hT := hT1
                  rcases hqr5860 with rfl | rfl
                  · refine lv_if_ne (tgt := 109) hx hb dX5_readStatement_104 (by decide) (fun c9 => absurd (by decide) c9) (fun _ => ?_)
                    refine lv_iconst (v := 0) hx hb dX5_readStatement_107 (by decide) ?_
                    refine W.know (fun hg => ?_)
                    rw [hH0] at hg
                    exact en_i hx hb hr hlocks hL rfl (Nat.zero_le _) (Nat.zero_le _) dX5_readStatement_108 (⟨_, (fun _ _ _ => rfl), hT, hF, hsu, Or.inl ⟨rfl, hg⟩, Or.inl rfl⟩)
                  · refine lv_if_ne (tgt := 109) hx hb dX5_readStatement_104 (by decide) (fun _ => ?_) (fun c9 => absurd c9 (by decide))
                    refine lv_aload_n hx hb dX5_readStatement_109 rfl (lv_at hl 0 rfl) ?_
                    obtain ⟨hb5861, e5861, hat5861, hk5861⟩ := hT.o6 hw.1
                    obtain ⟨f5861_0, f5861_2, f5861_3, f5861_4, f5861_5, f5861_6, f5861_7, f5861_8, f5861_9, f5861_10, f5861_11, f5861_12, f5861_13, rfl, c5861_1, c5861_2, c5861_3, c5861_5, c5861_10, t5861_0, t5861_9, c5861_11, c5861_p2⟩ := hk5861
                    obtain rfl : f5861_11 = .ref (κ w).2.2.2 := c5861_p2.resolve_left hs0
                    have hP : va_P D vwCl [(w, .inr (5, [.ref f5861_0, .int (nI ((κ w).2.2.1)), .int (nI f5861_2), .int (nI f5861_3), .int f5861_4, .int (nI f5861_5), .int f5861_6, .int f5861_7, .int f5861_8, .ref f5861_9, .int (nI f5861_10), .ref (κ w).2.2.2, .int f5861_12, .int f5861_13])), ((κ w).2.2.2, .inr (6, [.int (nI f5840_0), .int f5840_1, .int f5840_2, .null, .ref f5840_4, .ref f5840_5, .ref f5840_6, .ref f5840_7]))] _ := va_P.cons hat5861 hP
                    refine va_get (D := D) (ci := 5) (v := .ref (κ w).2.2.2) (C := RX5) (T := TX5) (N := 14) hx hb hts iX5_readStatement_5 hown hN.1 hP 0 rfl rfl 11 (by decide) (hts _ mX5_readStatement_1) (fun _ h9 => h9) rfl dX5_readStatement_110 ?_
                    have hb0 : B0 ≤ _ := hT.b0 hw (by decide)
                    have hB : Bx B0 D _ [(w, .inr (5, [.ref f5861_0, .int (nI ((κ w).2.2.1)), .int (nI f5861_2), .int (nI f5861_3), .int f5861_4, .int (nI f5861_5), .int f5861_6, .int f5861_7, .int f5861_8, .ref f5861_9, .int (nI f5861_10), .ref (κ w).2.2.2, .int f5861_12, .int f5861_13])), ((κ w).2.2.2, .inr (6, [.int (nI f5840_0), .int f5840_1, .int f5840_2, .null, .ref f5840_4, .ref f5840_5, .ref f5840_6, .ref f5840_7]))] [] _ _ := Bx.of (fun a => (κ a).1) hL hP (fa_c hb5861 (fa_c hb5840 fa_n)) (by simp only [List.map_cons, List.map_nil, hw.1, hsu.1]; decide)
                    refine nw_o (ci := 0) (fs := [.null, .null]) (C := RX0) (T := TX0) (N := 2) hx hb hts iX5_readStatement_0 tyX0 tyX0_ok hown (hts _ mX5_readStatement_2) (hts _ mX5_readStatement_3) (hts _ mX5_readStatement_4) hN rfl dfl0 (show 0 + 1 ≤ 3 by omega) (show 0 + 2 ≤ 618 by omega) dX5_readStatement_113 (fun q5862 H heq5862 hzq5862 hoq5862 hatq5862 => ?_)
                    have hgeq5862 : _ ≤ q5862 := Nat.le_trans hB.2.2.1 (Nat.le_of_eq heq5862.symm)
                    have hbq5862 : B0 ≤ q5862 := Nat.le_trans hb0 hgeq5862
                    have hfq5862 : (κ q5862).1 = 0 := hT.fresh hgeq5862
                    have hB := hB.nw heq5862 hzq5862 hoq5862 hatq5862 hb0
                    have hB : Bx B0 D _ [(w, .inr (5, [.ref f5861_0, .int (nI ((κ w).2.2.1)), .int (nI f5861_2), .int (nI f5861_3), .int f5861_4, .int (nI f5861_5), .int f5861_6, .int f5861_7, .int f5861_8, .ref f5861_9, .int (nI f5861_10), .ref (κ w).2.2.2, .int f5861_12, .int f5861_13])), ((κ w).2.2.2, .inr (6, [.int (nI f5840_0), .int f5840_1, .int f5840_2, .null, .ref f5840_4, .ref f5840_5, .ref f5840_6, .ref f5840_7])), (q5862, .inr (0, [.null, .null]))] [] _ _ := hB
                    refine lv_dup hx hb dX5_readStatement_116 rfl ?_
                    refine lv_aload_n hx hb dX5_readStatement_117 rfl (lv_at hl 0 rfl) ?_
                    refine va_get (D := D) (ci := 5) (v := .ref f5861_9) (C := RX5) (T := TX5) (N := 14) hx hb hts iX5_readStatement_5 hown hN.1 hB.1 0 rfl rfl 9 (by decide) (hts _ mX5_readStatement_5) (fun _ h9 => h9) rfl dX5_readStatement_118 ?_
                    refine lv_aload_n hx hb dX5_readStatement_121 rfl (lv_at hl 0 rfl) ?_
                    refine va_get (D := D) (ci := 5) (v := .int (nI f5861_10)) (C := RX5) (T := TX5) (N := 14) hx hb hts iX5_readStatement_5 hown hN.1 hB.1 0 rfl rfl 10 (by decide) (hts _ mX5_readStatement_6) (fun _ h9 => h9) rfl dX5_readStatement_122 ?_
                    have hT : WT B0 D cs T κ _ := hT.close hB trivial
                    have hF : Fr B0 [10, 11] κ H0 _ := hF.close hB fa_n
                    have hL : OkL B0 _ := hB.2.2.2.2.2
                    have hP : va_P D vwCl [(w, .inr (5, [.ref f5861_0, .int (nI ((κ w).2.2.1)), .int (nI f5861_2), .int (nI f5861_3), .int f5861_4, .int (nI f5861_5), .int f5861_6, .int f5861_7, .int f5861_8, .ref f5861_9, .int (nI f5861_10), .ref (κ w).2.2.2, .int f5861_12, .int f5861_13])), ((κ w).2.2.2, .inr (6, [.int (nI f5840_0), .int f5840_1, .int f5840_2, .null, .ref f5840_4, .ref f5840_5, .ref f5840_6, .ref f5840_7])), (q5862, .inr (0, [.null, .null]))] _ := hB.1
                    refine ci_v (As := [.ref f5861_9, .int (nI f5861_10)]) (rest := [.ref q5862, .ref (κ w).2.2.2]) (b := q5862) ⟨hx, hb, hml, hown, hts⟩ (c_X0_init hT (w := q5862) hfq5862 hbq5862 (hP 2 _ rfl) (v := f5861_9) t5861_9 (n := f5861_10) (by first | omega | decide | assumption)) (cwI 2 hts gX5_readStatement_X0_init rfl rfl rfl (hts _ mX5_readStatement_4) (hts _ mX5_readStatement_156) (hts _ mX5_readStatement_157) rfl hdX0_init_o ⟨Nat.le_of_ble_eq_true rfl, Nat.le_of_ble_eq_true rfl⟩) hN hE hL rfl rfl hl.1 (Nat.le_of_ble_eq_true rfl) dX5_readStatement_125 (show 1 + 2 ≤ 3 by omega) (show (0 + 2) + 616 ≤ 618 by omega) (fun H1 locs hL hqr5863 => ?_)
                    obtain ⟨κr5863, hxr5863, hT1, hF1, hqr5863⟩ := hqr5863
                    have hF := hF.tr (hF1.mono (by simp))
                    have hT := hT1
                    have hKF : KF κ κr5863 := hxr5863.f
                    have hKX : KX κ κr5863 := hxr5863
                    have hw := (hxr5863.f.t2 hw (by decide))
                    have hsu := (hxr5863.f.t2 hsu (by decide))
                    have hq5862 := hqr5863
                    obtain ⟨hb5864, e5864, hat5864, hk5864⟩ := hT.o7 hsu.1
                    obtain ⟨f5864_0, f5864_1, f5864_2, f5864_3, f5864_4, f5864_5, f5864_6, f5864_7, rfl, c5864_0, c5864_3, c5864_mg, t5864_4, t5864_5, t5864_6, t5864_7⟩ := hk5864
                    rw [hsu.2] at t5864_4
                    rw [hsu.2] at t5864_5
                    rw [hsu.2] at t5864_6
                    rw [hsu.2] at t5864_7
                    have hP : va_P D vwCl [((κ w).2.2.2, .inr (6, [.int (nI f5864_0), .int f5864_1, .int f5864_2, f5864_3, .ref f5864_4, .ref f5864_5, .ref f5864_6, .ref f5864_7]))] _ := va_P.cons hat5864 va_P.nil
                    have hB : Bx B0 D _ [((κ w).2.2.2, .inr (6, [.int (nI f5864_0), .int f5864_1, .int f5864_2, f5864_3, .ref f5864_4, .ref f5864_5, .ref f5864_6, .ref f5864_7]))] [] _ _ := Bx.of (fun a => (κr5863 a).1) hL hP (fa_c hb5864 fa_n) (by simp only [List.map_cons, List.map_nil, hsu.1]; decide)
                    refine b_putN (D := D) (ci := 6) (v := .ref q5862) (ty := .object "OneBeat$Formula") (C := RX6) (T := TX6) (N := 8) hx hb hts iX5_readStatement_6 tyX6 tyX6_ok nmX6 hown hN hB 0 rfl rfl 3 (by decide) (hN.f 44 rfl) (fun _ h9 => h9) rfl (by decide +kernel) rfl rfl (Nat.le_of_ble_eq_true rfl) (.inl rfl) dX5_readStatement_128 (fun H locs hB => ?_)
                    have hB : Bx B0 D _ [((κ w).2.2.2, .inr (6, [.int (nI f5864_0), .int f5864_1, .int f5864_2, .ref q5862, .ref f5864_4, .ref f5864_5, .ref f5864_6, .ref f5864_7]))] [(κ w).2.2.2] _ _ := hB
                    refine lv_iconst (v := 1) hx hb dX5_readStatement_131 (by decide) ?_
                    have hF : Fr B0 [10, 11] κ H0 _ := hF.closeN hB (fa_c (fun h9 => by rw [← (hKF _ h9).2, hsu.2]; simp) fa_n)
                    have hT : WT B0 D cs T (kp κr5863 (κ w).2.2.2 1 0) _ := hT.closeK (κ w).2.2.2 1 0 hB (by rw [hsu.1]; decide) (by rw [hsu.1]; decide) (List.mem_of_getElem? (i := 0) rfl) ⟨⟨0, _, rfl, kp_ok (ok_7 (k := ((κr5863 (κ w).2.2.2).1, (κr5863 (κ w).2.2.2).2.1, _, _)) hsu.1 ⟨_, _, _, _, _, _, _, _, rfl, (by omega), (Or.inr ⟨_, rfl, (t2kp hq5862)⟩), (Or.inr ⟨_, rfl⟩), ⟨(t2kp t5864_4).1, by rw [hsu.2]; exact (t2kp t5864_4).2⟩, ⟨(t2kp t5864_5).1, by rw [hsu.2]; exact (t2kp t5864_5).2⟩, ⟨(t2kp t5864_6).1, by rw [hsu.2]; exact (t2kp t5864_6).2⟩, ⟨(t2kp t5864_7).1, by rw [hsu.2]; exact (t2kp t5864_7).2⟩⟩)⟩, trivial⟩
                    have hL : OkL B0 _ := hB.2.2.2.2.2
                    have hsu := t2kp (x := 1) (y := 0) (a := (κ w).2.2.2) hsu
                    refine W.know (fun hg => ?_)
                    rw [hH0] at hg
                    exact en_i hx hb hr hlocks hL rfl (show 3 ≤ 3 by omega) (show ((0 + 2) + 616) ≤ 618 by omega) dX5_readStatement_132 (⟨_, (fun a h1 h2 => (kp_n h2).trans (hKX a h1)), hT, hF, hsu, Or.inr ⟨hmg1, by rw [kp_a], hg.mono (by omega) (by omega)⟩, Or.inr rfl⟩)
                · refine va_getN (D := D) (ci := 6) (v := .ref a5857) (C := RX6) (T := TX6) (N := 8) hx hb hts iX5_readStatement_6 hown hN.1 hP 0 rfl rfl 3 (by decide) (hN.f 44 rfl) (fun _ h9 => h9) rfl dX5_readStatement_89 ?_
                  refine lv_ifnonnull (tgt := 133) hx hb dX5_readStatement_92 (by decide) ?_
                  refine lv_aload_n hx hb dX5_readStatement_133 rfl (lv_at hl 0 rfl) ?_
                  refine lv_bipush (v := (-2)) hx hb dX5_readStatement_134 (by decide) ?_
                  refine lv_aload_n hx hb dX5_readStatement_136 rfl (lv_at hl 0 rfl) ?_
                  refine va_get (D := D) (ci := 5) (v := .int (nI f5839_5)) (C := RX5) (T := TX5) (N := 14) hx hb hts iX5_readStatement_5 hown hN.1 hP 1 rfl rfl 5 (by decide) (hts _ mX5_readStatement_7) (fun _ h9 => h9) rfl dX5_readStatement_137 ?_
                  refine cv_i (As := [.int (-2), .int (nI f5839_5)]) (rest := []) (b := w) ⟨hx, hb, hml, hown, hts⟩ (c_X5_fail hT (w := w) hw (x := (-2)) (y := (nI f5839_5))) (cwV 2 hts gX5_readStatement_X5_fail rfl rfl rfl hdX5_fail_v ⟨Nat.le_of_ble_eq_true rfl, Nat.le_of_ble_eq_true rfl⟩) hN hE hL (rcv6 hN hT hw.1) rfl rfl hl.1 (Nat.le_of_ble_eq_true rfl) dX5_readStatement_140 (Nat.zero_le _) (Nat.zero_le _) (fun r5865 H1 locs hL hqr5865 => ?_)
                  obtain ⟨hT1, hF1, hqr5865⟩ := hqr5865
                  have hP : va_P D vwCl [((κ w).2.2.2, .inr (6, [.int (nI f5840_0), .int f5840_1, .int f5840_2, .ref a5857, .ref f5840_4, .ref f5840_5, .ref f5840_6, .ref f5840_7]))] _ := hF1.hP (hP.sub [0] rfl) (fa_c ⟨by rw [hsu.1]; decide, by rw [hsu.2]; first | decide | (simp; done) | (simp [h15a, h15b, h15c]; done) | (simp; omega)⟩ fa_n)
                  have hF := hF.tr (hF1.mono (by simp))
                  have hT := hT1
                  obtain rfl := hqr5865
                  refine W.know (fun hg => ?_)
                  rw [hH0] at hg
                  exact en_i hx hb hr hlocks hL rfl (Nat.zero_le _) (Nat.zero_le _) dX5_readStatement_143 (⟨_, (fun _ _ _ => rfl), hT, hF, hsu, Or.inl ⟨rfl, hg⟩, Or.inl rfl⟩)
            · refine lv_aload_n hx hb dX5_readStatement_71 rfl (lv_at hl 0 rfl) ?_
              refine cv_i (As := []) (rest := []) (b := w) ⟨hx, hb, hml, hown, hts⟩ (c_X5_readPatience hT (w := w) hw (by first | omega | decide | assumption) (by first | omega | decide | assumption)) (cwV 0 hts gX5_readStatement_X5_readPatience rfl rfl rfl hdX5_readPatience_v ⟨Nat.le_of_ble_eq_true rfl, Nat.le_of_ble_eq_true rfl⟩) hN hE hL (rcv6 hN hT hw.1) rfl rfl hl.1 (Nat.le_of_ble_eq_true rfl) dX5_readStatement_72 (Nat.zero_le _) (Nat.zero_le _) (fun r5866 H1 locs hL hqr5866 => ?_)
              obtain ⟨hT1, hF1, hqr5866⟩ := hqr5866
              have hF := hF.tr (hF1.mono (by simp))
              have hT := hT1
              rcases hqr5866 with rfl | rfl
              · refine W.know (fun hg => ?_)
                rw [hH0] at hg
                exact en_i hx hb hr hlocks hL rfl (Nat.zero_le _) (Nat.zero_le _) dX5_readStatement_75 (⟨_, (fun _ _ _ => rfl), hT, hF, hsu, Or.inl ⟨rfl, hg⟩, Or.inl rfl⟩)
              · refine W.know (fun hg => ?_)
                rw [hH0] at hg
                exact en_i hx hb hr hlocks hL rfl (Nat.zero_le _) (Nat.zero_le _) dX5_readStatement_75 (⟨_, (fun _ _ _ => rfl), hT, hF, hsu, Or.inl ⟨rfl, hg⟩, Or.inr rfl⟩)
        · refine lv_aload_n hx hb dX5_readStatement_47 rfl (lv_at hl 0 rfl) ?_
          refine cv_i (As := []) (rest := []) (b := w) ⟨hx, hb, hml, hown, hts⟩ (c_X5_readNeed hT (w := w) hw (by first | omega | decide | assumption) (by first | omega | decide | assumption)) (cwV 0 hts gX5_readStatement_X5_readNeed rfl rfl rfl hdX5_readNeed_v ⟨Nat.le_of_ble_eq_true rfl, Nat.le_of_ble_eq_true rfl⟩) hN hE hL (rcv6 hN hT hw.1) rfl rfl hl.1 (Nat.le_of_ble_eq_true rfl) dX5_readStatement_48 (Nat.zero_le _) (Nat.zero_le _) (fun r5867 H1 locs hL hqr5867 => ?_)
          obtain ⟨hT1, hF1, hqr5867⟩ := hqr5867
          have hF := hF.tr (hF1.mono (by simp))
          have hT := hT1
          rcases hqr5867 with rfl | rfl
          · refine W.know (fun hg => ?_)
            rw [hH0] at hg
            exact en_i hx hb hr hlocks hL rfl (Nat.zero_le _) (Nat.zero_le _) dX5_readStatement_51 (⟨_, (fun _ _ _ => rfl), hT, hF, hsu, Or.inl ⟨rfl, hg⟩, Or.inl rfl⟩)
          · refine W.know (fun hg => ?_)
            rw [hH0] at hg
            exact en_i hx hb hr hlocks hL rfl (Nat.zero_le _) (Nat.zero_le _) dX5_readStatement_51 (⟨_, (fun _ _ _ => rfl), hT, hF, hsu, Or.inl ⟨rfl, hg⟩, Or.inr rfl⟩)
    · refine lv_if_eq (tgt := 28) hx hb dX5_readStatement_20 (by decide) (fun c9 => absurd c9 (by decide)) (fun _ => ?_)
      refine lv_aload_n hx hb dX5_readStatement_23 rfl (lv_at hl 0 rfl) ?_
      refine cv_i (As := []) (rest := []) (b := w) ⟨hx, hb, hml, hown, hts⟩ (c_X5_readLink hT (w := w) hw (by first | omega | decide | assumption) (by first | omega | decide | assumption)) (cwV 0 hts gX5_readStatement_X5_readLink rfl rfl rfl hdX5_readLink_v ⟨Nat.le_of_ble_eq_true rfl, Nat.le_of_ble_eq_true rfl⟩) hN hE hL (rcv6 hN hT hw.1) rfl rfl hl.1 (Nat.le_of_ble_eq_true rfl) dX5_readStatement_24 (Nat.zero_le _) (Nat.zero_le _) (fun r5868 H1 locs hL hqr5868 => ?_)
      obtain ⟨hT1, hF1, hqr5868⟩ := hqr5868
      have hF := hF.tr (hF1.mono (by simp))
      have hT := hT1
      rcases hqr5868 with rfl | rfl
      · refine W.know (fun hg => ?_)
        rw [hH0] at hg
        exact en_i hx hb hr hlocks hL rfl (Nat.zero_le _) (Nat.zero_le _) dX5_readStatement_27 (⟨_, (fun _ _ _ => rfl), hT, hF, hsu, Or.inl ⟨rfl, hg⟩, Or.inl rfl⟩)
      · refine W.know (fun hg => ?_)
        rw [hH0] at hg
        exact en_i hx hb hr hlocks hL rfl (Nat.zero_le _) (Nat.zero_le _) dX5_readStatement_27 (⟨_, (fun _ _ _ => rfl), hT, hF, hsu, Or.inl ⟨rfl, hg⟩, Or.inr rfl⟩)
  · refine lv_if_eq (tgt := 14) hx hb dX5_readStatement_6 (by decide) (fun c9 => absurd c9 (by decide)) (fun _ => ?_)
    refine lv_aload_n hx hb dX5_readStatement_9 rfl (lv_at hl 0 rfl) ?_
    refine cv_i (As := []) (rest := []) (b := w) ⟨hx, hb, hml, hown, hts⟩ (c_X5_readClock hT (w := w) hw (by first | omega | decide | assumption) (by first | omega | decide | assumption)) (cwV 0 hts gX5_readStatement_X5_readClock rfl rfl rfl hdX5_readClock_v ⟨Nat.le_of_ble_eq_true rfl, Nat.le_of_ble_eq_true rfl⟩) hN hE hL (rcv6 hN hT hw.1) rfl rfl hl.1 (Nat.le_of_ble_eq_true rfl) dX5_readStatement_10 (Nat.zero_le _) (Nat.zero_le _) (fun r5869 H1 locs hL hqr5869 => ?_)
    obtain ⟨hT1, hF1, hqr5869⟩ := hqr5869
    have hF := hF.tr (hF1.mono (by simp))
    have hT := hT1
    rcases hqr5869 with rfl | rfl
    · refine W.know (fun hg => ?_)
      rw [hH0] at hg
      exact en_i hx hb hr hlocks hL rfl (Nat.zero_le _) (Nat.zero_le _) dX5_readStatement_13 (⟨_, (fun _ _ _ => rfl), hT, hF, hsu, Or.inl ⟨rfl, hg⟩, Or.inl rfl⟩)
    · refine W.know (fun hg => ?_)
      rw [hH0] at hg
      exact en_i hx hb hr hlocks hL rfl (Nat.zero_le _) (Nat.zero_le _) dX5_readStatement_13 (⟨_, (fun _ _ _ => rfl), hT, hF, hsu, Or.inl ⟨rfl, hg⟩, Or.inr rfl⟩)
theorem mX5_read_1 : (.fieldLink RX5 11 "OneBeat$Reader" "text" "[B" : Cond) ∈ wsX5_read := List.mem_of_getElem? (i := 1) (by decide +kernel)
theorem iX5_read_5 : ∀ w ∈ wsX50, w ∈ wsX5_read := fun w h => List.mem_of_mem_drop (List.mem_of_mem_take ((show wsX50 = (wsX5_read.drop 210).take 14 by decide +kernel) ▸ h))
theorem mX5_read_2 : (.methodLink RX5 23 Lib.Math.min.name : Cond) ∈ wsX5_read := List.mem_of_getElem? (i := 2) (by decide +kernel)
theorem mX5_read_3 : (.static Lib.Math.min.name : Cond) ∈ wsX5_read := List.mem_of_getElem? (i := 3) (by decide +kernel)
theorem mX5_read_4 : (.initialized "java/lang/Math" : Cond) ∈ wsX5_read := List.mem_of_getElem? (i := 4) (by decide +kernel)
theorem mX5_read_5 : (.code Lib.Math.min.name Lib.Math.min.code 2 (some .int) : Cond) ∈ wsX5_read := List.mem_of_getElem? (i := 5) (by decide +kernel)
theorem mX5_read_6 : (.methodLink RX5 29 Lib.Math.max.name : Cond) ∈ wsX5_read := List.mem_of_getElem? (i := 6) (by decide +kernel)
theorem mX5_read_7 : (.static Lib.Math.max.name : Cond) ∈ wsX5_read := List.mem_of_getElem? (i := 7) (by decide +kernel)
theorem mX5_read_8 : (.code Lib.Math.max.name Lib.Math.max.code 2 (some .int) : Cond) ∈ wsX5_read := List.mem_of_getElem? (i := 8) (by decide +kernel)
theorem mX5_read_9 : (.fieldLink RX5 32 "OneBeat$Reader" "length" "I" : Cond) ∈ wsX5_read := List.mem_of_getElem? (i := 9) (by decide +kernel)
theorem mX5_read_10 : (.fieldLink RX5 19 "OneBeat$Reader" "stored" "I" : Cond) ∈ wsX5_read := List.mem_of_getElem? (i := 10) (by decide +kernel)
theorem mX5_read_11 : (.fieldLink RX5 35 "OneBeat$Reader" "position" "I" : Cond) ∈ wsX5_read := List.mem_of_getElem? (i := 11) (by decide +kernel)
theorem mX5_read_12 : (.fieldLink RX5 38 "OneBeat$Reader" "codeCount" "I" : Cond) ∈ wsX5_read := List.mem_of_getElem? (i := 12) (by decide +kernel)
theorem mX5_read_13 : (.fieldLink RX5 41 "OneBeat$Reader" "errorStart" "I" : Cond) ∈ wsX5_read := List.mem_of_getElem? (i := 13) (by decide +kernel)
theorem hdX5_takeWord_v : yX5_takeWord.cls = RX5 ∧ yX5_takeWord.cls ≠ "java/lang/invoke/MethodHandle" ∧ yX5_takeWord.cls ≠ "java/lang/invoke/VarHandle" ∧ (parseMethodDescriptor yX5_takeWord.desc).map (fun d => d.parameters.length) = some 1 := by decide +kernel
theorem iX5_read_6 : ∀ w ∈ wsX60, w ∈ wsX5_read := fun w h => List.mem_of_mem_drop (List.mem_of_mem_take ((show wsX60 = (wsX5_read.drop 224).take 8 by decide +kernel) ▸ h))
theorem mX5_read_14 : (.classLink RX5 53 RX6 : Cond) ∈ wsX5_read := List.mem_of_getElem? (i := 14) (by decide +kernel)
theorem mX5_read_15 : (.instantiable RX6 8 : Cond) ∈ wsX5_read := List.mem_of_getElem? (i := 15) (by decide +kernel)
theorem mX5_read_16 : (.initialized RX6 : Cond) ∈ wsX5_read := List.mem_of_getElem? (i := 16) (by decide +kernel)
theorem dfl6 : ∀ j, j < 8 → defaultValue (tyX6 j) = vp_V [.int 0, .int 0, .int 0, .null, .null, .null, .null, .null] j := by decide +kernel
theorem mX5_read_17 : (.fieldLink RX5 59 "OneBeat$Reader" "taken" "I" : Cond) ∈ wsX5_read := List.mem_of_getElem? (i := 17) (by decide +kernel)
theorem mX5_read_96 : (.instanceMethod yX6_init : Cond) ∈ wsX5_read := List.mem_of_getElem? (i := 96) (by decide +kernel)
theorem mX5_read_95 : (.methodLink RX5 62 yX6_init : Cond) ∈ wsX5_read := List.mem_of_getElem? (i := 95) (by decide +kernel)
theorem hdX6_init_o : yX6_init.cls ≠ "java/lang/invoke/MethodHandle" ∧ yX6_init.cls ≠ "java/lang/invoke/VarHandle" ∧ (parseMethodDescriptor yX6_init.desc).map (fun d => d.parameters.length) = some 1 := by decide +kernel
theorem mX5_read_18 : (.fieldLink RX5 65 "OneBeat$Reader" "setup" "LOneBeat$Setup;" : Cond) ∈ wsX5_read := List.mem_of_getElem? (i := 18) (by decide +kernel)
theorem hdX6_fillIn_v : yX6_fillIn.cls = RX6 ∧ yX6_fillIn.cls ≠ "java/lang/invoke/MethodHandle" ∧ yX6_fillIn.cls ≠ "java/lang/invoke/VarHandle" ∧ (parseMethodDescriptor yX6_fillIn.desc).map (fun d => d.parameters.length) = some 0 := by decide +kernel
theorem mX5_read_19 : (.fieldLink RX5 73 "OneBeat$Reader" "kind" "I" : Cond) ∈ wsX5_read := List.mem_of_getElem? (i := 19) (by decide +kernel)
theorem hdX5_readStatement_v : yX5_readStatement.cls = RX5 ∧ yX5_readStatement.cls ≠ "java/lang/invoke/MethodHandle" ∧ yX5_readStatement.cls ≠ "java/lang/invoke/VarHandle" ∧ (parseMethodDescriptor yX5_readStatement.desc).map (fun d => d.parameters.length) = some 0 := by decide +kernel
set_option maxHeartbeats 4000000 in
set_option maxRecDepth 100000 in
theorem c_X5_read {l : Launch} {D : va_G} {cs : Nat → ClassId} {B0 T : Nat} {κ : KM} {H0 : Heap} (hT : WT B0 D cs T κ H0) {w : Nat} (hw : T2 κ w 6 10) {n : Nat} (hn : n ≤ 600) : KC l yX5_read wsX5_read 22 487 11 1332 D cs B0 H0 [.ref w, .int (nI n)] (Qn (fun r H => ∃ κ1, (∀ a, (κ a).1 ≠ 0 → a ≠ w → (κ a).2.1 ≠ 11 → κ1 a = κ a) ∧ (∀ a, (κ a).1 ≠ 0 → (κ1 a).1 = (κ a).1) ∧ T2 κ1 w 6 10 ∧ (κ1 w).2.2.1 = 0 ∧ WT B0 D cs T κ1 H ∧ Fr B0 [10, 11] κ H0 H ∧ Gr H0 H 8 714 ∧ (r = .null ∨ ∃ q, r = .ref q ∧ T2 κ1 q 7 15))) := by
  refine KC.of cX5_read 3 (some (.object "OneBeat$Setup")) (by decide) rfl (Nat.le_of_ble_eq_true rfl) ?_
  intro p e s m below meth c ls hx hb hr hml hown hts hlocks hin hN hE hH0 hl
  have hown : s.vm.findClass RX5 = some m.cls := hown
  have hl : lv_has ls 3 [(0, .ref w), (1, .int (nI n))] := hl
  have hL : OkL B0 [] := OkL.nil
  have hF : Fr B0 [10, 11] κ H0 H0 := Fr.rf
  refine lv_aload_n hx hb dX5_read_0 rfl (lv_at hl 0 rfl) ?_
  refine lv_iconst (v := 0) hx hb dX5_read_1 (by decide) ?_
  refine lv_iload_n hx hb dX5_read_2 rfl (lv_at hl 1 rfl) ?_
  refine lv_aload_n hx hb dX5_read_3 rfl (lv_at hl 0 rfl) ?_
  obtain ⟨hb5870, e5870, hat5870, hk5870⟩ := hT.o6 hw.1
  obtain ⟨f5870_0, f5870_2, f5870_3, f5870_4, f5870_5, f5870_6, f5870_7, f5870_8, f5870_9, f5870_10, f5870_11, f5870_12, f5870_13, rfl, c5870_1, c5870_2, c5870_3, c5870_5, c5870_10, t5870_0, t5870_9, c5870_11, c5870_p2⟩ := hk5870
  have hP : va_P D vwCl [(w, .inr (5, [.ref f5870_0, .int (nI ((κ w).2.2.1)), .int (nI f5870_2), .int (nI f5870_3), .int f5870_4, .int (nI f5870_5), .int f5870_6, .int f5870_7, .int f5870_8, .ref f5870_9, .int (nI f5870_10), f5870_11, .int f5870_12, .int f5870_13]))] _ := va_P.cons hat5870 va_P.nil
  refine va_get (D := D) (ci := 5) (v := .ref f5870_0) (C := RX5) (T := TX5) (N := 14) hx hb hts iX5_read_5 hown hN.1 hP 0 rfl rfl 0 (by decide) (hts _ mX5_read_1) (fun _ h9 => h9) rfl dX5_read_4 ?_
  obtain ⟨hb5871, e5871, hat5871, hk5871⟩ := hT.o16 t5870_0.1
  obtain ⟨g5871, rfl⟩ := hk5871
  have hP : va_P D vwCl [(f5870_0, .inl (cs 1, 600, .inl g5871)), (w, .inr (5, [.ref f5870_0, .int (nI ((κ w).2.2.1)), .int (nI f5870_2), .int (nI f5870_3), .int f5870_4, .int (nI f5870_5), .int f5870_6, .int f5870_7, .int f5870_8, .ref f5870_9, .int (nI f5870_10), f5870_11, .int f5870_12, .int f5870_13]))] _ := va_P.cons hat5871 hP
  refine va_alen (v := 600) hx hb hN.1 hP 0 1 rfl rfl rfl dX5_read_7 ?_
  refine va_mmin hx hb (hml.trans hl.1.symm) hown (hts _ mX5_read_2) (hts _ mX5_read_3) (hts _ mX5_read_4) (hts _ mX5_read_5) (Nat.le_of_ble_eq_true rfl) (Nat.le_of_ble_eq_true rfl) (Nat.zero_le _) (Nat.zero_le _) dX5_read_8 ?_
  obtain ⟨m5872, hm5872, em5872⟩ := nI_min (a := n) (b := 600) (by omega) (by omega)
  refine tp_i (nI m5872) em5872 ?_
  refine va_mmax hx hb (hml.trans hl.1.symm) hown (hts _ mX5_read_6) (hts _ mX5_read_7) (hts _ mX5_read_4) (hts _ mX5_read_8) (Nat.le_of_ble_eq_true rfl) (Nat.le_of_ble_eq_true rfl) (Nat.zero_le _) (Nat.zero_le _) dX5_read_11 ?_
  obtain ⟨m5873, hm5873, em5873⟩ := nI_max (a := 0) (b := m5872) (by omega) (by omega)
  refine tp_i (nI m5873) em5873 ?_
  have hB : Bx B0 D _ [(f5870_0, .inl (cs 1, 600, .inl g5871)), (w, .inr (5, [.ref f5870_0, .int (nI ((κ w).2.2.1)), .int (nI f5870_2), .int (nI f5870_3), .int f5870_4, .int (nI f5870_5), .int f5870_6, .int f5870_7, .int f5870_8, .ref f5870_9, .int (nI f5870_10), f5870_11, .int f5870_12, .int f5870_13]))] [] _ _ := Bx.of (fun a => (κ a).1) hL hP (fa_c hb5871 (fa_c hb5870 fa_n)) (by simp only [List.map_cons, List.map_nil, t5870_0.1, hw.1]; decide)
  refine b_put (D := D) (ci := 5) (v := .int (nI m5873)) (ty := .int) (C := RX5) (T := TX5) (N := 14) hx hb hts iX5_read_5 tyX5 tyX5_ok nmX5 hown hN hB 1 rfl rfl 2 (by decide) (hts _ mX5_read_9) (fun _ h9 => h9) rfl (by decide +kernel) rfl rfl (Nat.le_of_ble_eq_true rfl) (.inl rfl) dX5_read_14 (fun H locs hB => ?_)
  have hB : Bx B0 D _ [(f5870_0, .inl (cs 1, 600, .inl g5871)), (w, .inr (5, [.ref f5870_0, .int (nI ((κ w).2.2.1)), .int (nI m5873), .int (nI f5870_3), .int f5870_4, .int (nI f5870_5), .int f5870_6, .int f5870_7, .int f5870_8, .ref f5870_9, .int (nI f5870_10), f5870_11, .int f5870_12, .int f5870_13]))] [w] _ _ := hB
  refine lv_aload_n hx hb dX5_read_17 rfl (lv_at hl 0 rfl) ?_
  refine lv_iconst (v := 0) hx hb dX5_read_18 (by decide) ?_
  refine tp_i (nI 0) rfl ?_
  refine b_put (D := D) (ci := 5) (v := .int (nI 0)) (ty := .int) (C := RX5) (T := TX5) (N := 14) hx hb hts iX5_read_5 tyX5 tyX5_ok nmX5 hown hN hB 1 rfl rfl 1 (by decide) (hts _ mX5_read_10) (fun _ h9 => h9) rfl (by decide +kernel) rfl rfl (Nat.le_of_ble_eq_true rfl) (.inr ⟨rfl, List.mem_of_getElem? (i := 0) rfl⟩) dX5_read_19 (fun H locs hB => ?_)
  have hB : Bx B0 D _ [(f5870_0, .inl (cs 1, 600, .inl g5871)), (w, .inr (5, [.ref f5870_0, .int (nI 0), .int (nI m5873), .int (nI f5870_3), .int f5870_4, .int (nI f5870_5), .int f5870_6, .int f5870_7, .int f5870_8, .ref f5870_9, .int (nI f5870_10), f5870_11, .int f5870_12, .int f5870_13]))] [w] _ _ := hB
  refine lv_aload_n hx hb dX5_read_22 rfl (lv_at hl 0 rfl) ?_
  refine lv_iconst (v := 0) hx hb dX5_read_23 (by decide) ?_
  refine tp_i (nI 0) rfl ?_
  refine b_put (D := D) (ci := 5) (v := .int (nI 0)) (ty := .int) (C := RX5) (T := TX5) (N := 14) hx hb hts iX5_read_5 tyX5 tyX5_ok nmX5 hown hN hB 1 rfl rfl 3 (by decide) (hts _ mX5_read_11) (fun _ h9 => h9) rfl (by decide +kernel) rfl rfl (Nat.le_of_ble_eq_true rfl) (.inr ⟨rfl, List.mem_of_getElem? (i := 0) rfl⟩) dX5_read_24 (fun H locs hB => ?_)
  have hB : Bx B0 D _ [(f5870_0, .inl (cs 1, 600, .inl g5871)), (w, .inr (5, [.ref f5870_0, .int (nI 0), .int (nI m5873), .int (nI 0), .int f5870_4, .int (nI f5870_5), .int f5870_6, .int f5870_7, .int f5870_8, .ref f5870_9, .int (nI f5870_10), f5870_11, .int f5870_12, .int f5870_13]))] [w] _ _ := hB
  refine lv_aload_n hx hb dX5_read_27 rfl (lv_at hl 0 rfl) ?_
  refine lv_iconst (v := 0) hx hb dX5_read_28 (by decide) ?_
  refine tp_i (nI 0) rfl ?_
  refine b_put (D := D) (ci := 5) (v := .int (nI 0)) (ty := .int) (C := RX5) (T := TX5) (N := 14) hx hb hts iX5_read_5 tyX5 tyX5_ok nmX5 hown hN hB 1 rfl rfl 10 (by decide) (hts _ mX5_read_12) (fun _ h9 => h9) rfl (by decide +kernel) rfl rfl (Nat.le_of_ble_eq_true rfl) (.inr ⟨rfl, List.mem_of_getElem? (i := 0) rfl⟩) dX5_read_29 (fun H locs hB => ?_)
  have hB : Bx B0 D _ [(f5870_0, .inl (cs 1, 600, .inl g5871)), (w, .inr (5, [.ref f5870_0, .int (nI 0), .int (nI m5873), .int (nI 0), .int f5870_4, .int (nI f5870_5), .int f5870_6, .int f5870_7, .int f5870_8, .ref f5870_9, .int (nI 0), f5870_11, .int f5870_12, .int f5870_13]))] [w] _ _ := hB
  refine lv_aload_n hx hb dX5_read_32 rfl (lv_at hl 0 rfl) ?_
  refine lv_iconst (v := (-1)) hx hb dX5_read_33 (by decide) ?_
  refine b_put (D := D) (ci := 5) (v := .int (-1)) (ty := .int) (C := RX5) (T := TX5) (N := 14) hx hb hts iX5_read_5 tyX5 tyX5_ok nmX5 hown hN hB 1 rfl rfl 13 (by decide) (hts _ mX5_read_13) (fun _ h9 => h9) rfl (by decide +kernel) rfl rfl (Nat.le_of_ble_eq_true rfl) (.inr ⟨rfl, List.mem_of_getElem? (i := 0) rfl⟩) dX5_read_34 (fun H locs hB => ?_)
  have hB : Bx B0 D _ [(f5870_0, .inl (cs 1, 600, .inl g5871)), (w, .inr (5, [.ref f5870_0, .int (nI 0), .int (nI m5873), .int (nI 0), .int f5870_4, .int (nI f5870_5), .int f5870_6, .int f5870_7, .int f5870_8, .ref f5870_9, .int (nI 0), f5870_11, .int f5870_12, .int (-1)]))] [w] _ _ := hB
  have hF : Fr B0 [10, 11] κ H0 _ := hF.close hB (fa_c (by simp [hw.2]) fa_n)
  have hT : WT B0 D cs T (kp κ w 0 0) _ := hT.closeK w 0 0 hB (by rw [hw.1]; decide) (by rw [hw.1]; decide) (List.mem_of_getElem? (i := 0) rfl) ⟨⟨1, _, rfl, kp_ok (ok_6 (k := ((κ w).1, (κ w).2.1, _, _)) hw.1 ⟨_, _, _, _, _, _, _, _, _, _, _, _, _, rfl, (by show 0 ≤ 600; omega), (by omega), (by omega), (by omega), (by omega), (t2kp t5870_0), (t2kp t5870_9), (kp_su c5870_11), (Or.inl rfl)⟩)⟩, trivial⟩
  have hL : OkL B0 _ := hB.2.2.2.2.2
  have hP : va_P D vwCl [(f5870_0, .inl (cs 1, 600, .inl g5871)), (w, .inr (5, [.ref f5870_0, .int (nI 0), .int (nI m5873), .int (nI 0), .int f5870_4, .int (nI f5870_5), .int f5870_6, .int f5870_7, .int f5870_8, .ref f5870_9, .int (nI 0), f5870_11, .int f5870_12, .int (-1)]))] _ := hB.1
  obtain ⟨κ5874, hκ5874⟩ : ∃ κq : KM, κq = (kp κ w 0 0) := ⟨_, rfl⟩
  have hxf5874 : KF κ κ5874 := by rw [hκ5874]; exact KF.kp
  rw [← hκ5874] at hT
  have hKF : KF κ κ5874 := hxf5874
  have hw := (KF.t2 hxf5874 hw (by decide))
  have hKW : ∀ a, (κ a).1 ≠ 0 → a ≠ w → κ5874 a = κ a := fun a _ h9 => by rw [hκ5874, kp_n h9]
  have hw1 : (κ5874 w).2.2.1 = 0 := by rw [hκ5874, kp_a]
  refine lv_aload_n hx hb dX5_read_37 rfl (lv_at hl 0 rfl) ?_
  refine cv_v (As := []) (rest := []) (b := w) ⟨hx, hb, hml, hown, hts⟩ (c_X5_step hT (w := w) hw) (cwV 0 hts gX5_read_X5_step rfl rfl rfl hdX5_step_v ⟨Nat.le_of_ble_eq_true rfl, Nat.le_of_ble_eq_true rfl⟩) hN hE hL (rcv6 hN hT hw.1) rfl rfl hl.1 (Nat.le_of_ble_eq_true rfl) dX5_read_38 (Nat.zero_le _) (Nat.zero_le _) (fun H1 locs hL hqr5875 => ?_)
  obtain ⟨hT1, hF1, hqr5875⟩ := hqr5875
  have hF := hF.tr ((hF1.kf hKF).mono (by simp))
  have hT := hT1
  have f5876 := hqr5875
  refine lv_aload_n hx hb dX5_read_41 rfl (lv_at hl 0 rfl) ?_
  refine va_ldcS hx hb hown (hN.s 1 rfl) dX5_read_42 ?_
  refine cv_i (As := [.ref (cs 101)]) (rest := []) (b := w) ⟨hx, hb, hml, hown, hts⟩ (c_X5_takeWord hT (w := w) hw (i := 1) (by decide)) (cwV 1 hts gX5_read_X5_takeWord rfl rfl rfl hdX5_takeWord_v ⟨Nat.le_of_ble_eq_true rfl, Nat.le_of_ble_eq_true rfl⟩) hN hE hL (rcv6 hN hT hw.1) rfl rfl hl.1 (Nat.le_of_ble_eq_true rfl) dX5_read_44 (Nat.zero_le _) (Nat.zero_le _) (fun r5877 H1 locs hL hqr5877 => ?_)
  obtain ⟨hT1, hF1, hqr5877⟩ := hqr5877
  have hF := hF.tr ((hF1.kf hKF).mono (by simp))
  have hT := hT1
  rcases hqr5877 with rfl | rfl
  · refine lv_if_eq (tgt := 60) hx hb dX5_read_47 (by decide) (fun _ => ?_) (fun c9 => absurd (by decide) c9)
    refine lv_null hx hb dX5_read_60 ?_
    refine W.know (fun hg => ?_)
    rw [hH0] at hg
    exact en_n hx hb hr hlocks (by first | exact Or.inl ⟨_, rfl⟩ | exact Or.inr ⟨_, rfl⟩) hL (Nat.zero_le _) (Nat.zero_le _) (Or.inl rfl) dX5_read_61 (⟨κ5874, (fun a h1 h2 _ => hKW a h1 h2), (fun a h1 => (hKF a h1).1), hw, hw1, hT, hF, hg.mono (by omega) (by omega), Or.inl rfl⟩)
  · refine lv_if_eq (tgt := 60) hx hb dX5_read_47 (by decide) (fun c9 => absurd c9 (by decide)) (fun _ => ?_)
    refine lv_aload_n hx hb dX5_read_50 rfl (lv_at hl 0 rfl) ?_
    refine lv_iconst (v := 1) hx hb dX5_read_51 (by decide) ?_
    refine lv_bipush (v := 8) hx hb dX5_read_52 (by decide) ?_
    refine cv_i (As := [.int 1, .int 8]) (rest := []) (b := w) ⟨hx, hb, hml, hown, hts⟩ (c_X5_takeNumber hT (w := w) hw (x := 1) (y := 8)) (cwV 2 hts gX5_read_X5_takeNumber rfl rfl rfl hdX5_takeNumber_v ⟨Nat.le_of_ble_eq_true rfl, Nat.le_of_ble_eq_true rfl⟩) hN hE hL (rcv6 hN hT hw.1) rfl rfl hl.1 (Nat.le_of_ble_eq_true rfl) dX5_read_54 (Nat.zero_le _) (Nat.zero_le _) (fun r5878 H1 locs hL hqr5878 => ?_)
    obtain ⟨hT1, hF1, hqr5878⟩ := hqr5878
    have hF := hF.tr ((hF1.kf hKF).mono (by simp))
    have hT := hT1
    rcases hqr5878 with rfl | ⟨rfl, v5879, l5880, g5881, f5882⟩
    · refine lv_if_ne (tgt := 62) hx hb dX5_read_57 (by decide) (fun c9 => absurd (by decide) c9) (fun _ => ?_)
      refine lv_null hx hb dX5_read_60 ?_
      refine W.know (fun hg => ?_)
      rw [hH0] at hg
      exact en_n hx hb hr hlocks (by first | exact Or.inl ⟨_, rfl⟩ | exact Or.inr ⟨_, rfl⟩) hL (Nat.zero_le _) (Nat.zero_le _) (Or.inl rfl) dX5_read_61 (⟨κ5874, (fun a h1 h2 _ => hKW a h1 h2), (fun a h1 => (hKF a h1).1), hw, hw1, hT, hF, hg.mono (by omega) (by omega), Or.inl rfl⟩)
    · obtain ⟨n5883, hn5883a, hn5883b, rfl⟩ := rng (x := v5879) (lo := 1) (hi := 8) (by decide) (by decide) l5880 g5881
      refine lv_if_ne (tgt := 62) hx hb dX5_read_57 (by decide) (fun _ => ?_) (fun c9 => absurd c9 (by decide))
      refine lv_aload_n hx hb dX5_read_62 rfl (lv_at hl 0 rfl) ?_
      have hb0 : B0 ≤ _ := hT.b0 hw (by decide)
      have hP : va_P D vwCl [] _ := hT.nil
      have hB : Bx B0 D _ [] [] _ _ := Bx.of (fun a => (κ5874 a).1) hL hP fa_n (by simp only [List.map_cons, List.map_nil, ]; decide)
      refine nw_o (ci := 6) (fs := [.int 0, .int 0, .int 0, .null, .null, .null, .null, .null]) (C := RX6) (T := TX6) (N := 8) hx hb hts iX5_read_6 tyX6 tyX6_ok hown (hts _ mX5_read_14) (hts _ mX5_read_15) (hts _ mX5_read_16) hN rfl dfl6 (show 0 + 1 ≤ 11 by omega) (show 0 + 8 ≤ 1332 by omega) dX5_read_63 (fun q5884 H heq5884 hzq5884 hoq5884 hatq5884 => ?_)
      have hgeq5884 : _ ≤ q5884 := Nat.le_trans hB.2.2.1 (Nat.le_of_eq heq5884.symm)
      have hbq5884 : B0 ≤ q5884 := Nat.le_trans hb0 hgeq5884
      have hfq5884 : (κ5874 q5884).1 = 0 := hT.fresh hgeq5884
      have hB := hB.nw heq5884 hzq5884 hoq5884 hatq5884 hb0
      have hB : Bx B0 D _ [(q5884, .inr (6, [.int 0, .int 0, .int 0, .null, .null, .null, .null, .null]))] [] _ _ := hB
      have hT0 := hT
      refine lv_dup hx hb dX5_read_66 rfl ?_
      refine lv_aload_n hx hb dX5_read_67 rfl (lv_at hl 0 rfl) ?_
      obtain ⟨hb5885, e5885, hat5885, hk5885⟩ := hT.o6 hw.1
      obtain ⟨f5885_0, f5885_2, f5885_3, f5885_4, f5885_5, f5885_6, f5885_7, f5885_8, f5885_9, f5885_10, f5885_11, f5885_12, f5885_13, rfl, c5885_1, c5885_2, c5885_3, c5885_5, c5885_10, t5885_0, t5885_9, c5885_11, c5885_p2⟩ := hk5885
      obtain rfl : f5885_7 = nI n5883 := Value.int.inj (f5882.eq hat5885 rfl (by decide) rfl)
      have hB : Bx B0 D _ [(q5884, .inr (6, [.int 0, .int 0, .int 0, .null, .null, .null, .null, .null])), (w, .inr (5, [.ref f5885_0, .int (nI ((κ5874 w).2.2.1)), .int (nI f5885_2), .int (nI f5885_3), .int f5885_4, .int (nI f5885_5), .int f5885_6, .int (nI n5883), .int f5885_8, .ref f5885_9, .int (nI f5885_10), f5885_11, .int f5885_12, .int f5885_13]))] [] _ _ := hB.more hat5885 hb5885 (fa_c (nw_ne hat5885 hgeq5884) fa_n) fa_n
      refine va_get (D := D) (ci := 5) (v := .int (nI n5883)) (C := RX5) (T := TX5) (N := 14) hx hb hts iX5_read_5 hown hN.1 hB.1 1 rfl rfl 7 (by decide) (hts _ mX5_read_17) (fun _ h9 => h9) rfl dX5_read_68 ?_
      have hwO := hw
      have hKFO := hKF
      have hT : WT B0 D cs T κ5874 _ := hT.close hB trivial
      have hF : Fr B0 [10, 11] κ H0 _ := hF.closeN hB fa_n
      have hL : OkL B0 _ := hB.2.2.2.2.2
      have hP : va_P D vwCl [(q5884, .inr (6, [.int 0, .int 0, .int 0, .null, .null, .null, .null, .null])), (w, .inr (5, [.ref f5885_0, .int (nI ((κ5874 w).2.2.1)), .int (nI f5885_2), .int (nI f5885_3), .int f5885_4, .int (nI f5885_5), .int f5885_6, .int (nI n5883), .int f5885_8, .ref f5885_9, .int (nI f5885_10), f5885_11, .int f5885_12, .int f5885_13]))] _ := hB.1
      refine ci_v (As := [.int (nI n5883)]) (rest := [.ref q5884, .ref w]) (b := q5884) ⟨hx, hb, hml, hown, hts⟩ (c_X6_init hT (w := q5884) hfq5884 hbq5884 (hP 0 _ rfl) (n := n5883) (by first | omega | decide | assumption)) (cwI 1 hts gX5_read_X6_init rfl rfl rfl (hts _ mX5_read_16) (hts _ mX5_read_95) (hts _ mX5_read_96) rfl hdX6_init_o ⟨Nat.le_of_ble_eq_true rfl, Nat.le_of_ble_eq_true rfl⟩) hN hE hL rfl rfl hl.1 (Nat.le_of_ble_eq_true rfl) dX5_read_71 (show 1 + 4 ≤ 11 by omega) (show (0 + 8) + 88 ≤ 1332 by omega) (fun H1 locs hL hqr5886 => ?_)
      obtain ⟨κr5886, hxr5886, hT1, hF1, hqr5886⟩ := hqr5886
      have hF := hF.tr ((hF1.kf hKF).mono (by simp))
      have hT := hT1
      have hKF := hKF.tr hxr5886.f
      have hw := (hxr5886.f.t2 hw (by decide))
      obtain ⟨hq5884, hqr5886⟩ := hqr5886
      have ekq5884 := hqr5886
      have ew9 : κr5886 w = _ := hxr5886 w (by rw [hwO.1]; decide)
      have hKW : ∀ a, (κ a).1 ≠ 0 → a ≠ w → κr5886 a = κ a := fun a h1 h2 => (hxr5886 a (by rw [hKW a h1 h2]; exact h1)).trans (hKW a h1 h2)
      have hw1 : (κr5886 w).2.2.1 = 0 := by rw [ew9]; exact hw1
      have hsf : (κ q5884).1 = 0 := by have h9 := hfq5884; by_cases h8 : (κ q5884).1 = 0; exact h8; rw [(hKFO _ h8).1] at h9; exact h9
      have hq0 : ¬ q5884 = 0 := by have h9 := hT0.lt hwO (by decide); omega
      have hqw : q5884 ≠ w := ne_c hq5884.1 hw.1 (by decide)
      obtain ⟨hb5887, e5887, hat5887, hk5887⟩ := hT.o6 hw.1
      obtain ⟨f5887_0, f5887_2, f5887_3, f5887_4, f5887_5, f5887_6, f5887_7, f5887_8, f5887_9, f5887_10, f5887_11, f5887_12, f5887_13, rfl, c5887_1, c5887_2, c5887_3, c5887_5, c5887_10, t5887_0, t5887_9, c5887_11, c5887_p2⟩ := hk5887
      have hP : va_P D vwCl [(w, .inr (5, [.ref f5887_0, .int (nI ((κr5886 w).2.2.1)), .int (nI f5887_2), .int (nI f5887_3), .int f5887_4, .int (nI f5887_5), .int f5887_6, .int f5887_7, .int f5887_8, .ref f5887_9, .int (nI f5887_10), f5887_11, .int f5887_12, .int f5887_13]))] _ := va_P.cons hat5887 va_P.nil
      have hB : Bx B0 D _ [(w, .inr (5, [.ref f5887_0, .int (nI ((κr5886 w).2.2.1)), .int (nI f5887_2), .int (nI f5887_3), .int f5887_4, .int (nI f5887_5), .int f5887_6, .int f5887_7, .int f5887_8, .ref f5887_9, .int (nI f5887_10), f5887_11, .int f5887_12, .int f5887_13]))] [] _ _ := Bx.of (fun a => (κr5886 a).1) hL hP (fa_c hb5887 fa_n) (by simp only [List.map_cons, List.map_nil, hw.1]; decide)
      refine b_put (D := D) (ci := 5) (v := .ref q5884) (ty := .object "OneBeat$Setup") (C := RX5) (T := TX5) (N := 14) hx hb hts iX5_read_5 tyX5 tyX5_ok nmX5 hown hN hB 0 rfl rfl 11 (by decide) (hts _ mX5_read_18) (fun _ h9 => h9) rfl (by decide +kernel) rfl rfl (Nat.le_of_ble_eq_true rfl) (.inl rfl) dX5_read_74 (fun H locs hB => ?_)
      have hB : Bx B0 D _ [(w, .inr (5, [.ref f5887_0, .int (nI ((κr5886 w).2.2.1)), .int (nI f5887_2), .int (nI f5887_3), .int f5887_4, .int (nI f5887_5), .int f5887_6, .int f5887_7, .int f5887_8, .ref f5887_9, .int (nI f5887_10), .ref q5884, .int f5887_12, .int f5887_13]))] [w] _ _ := hB
      have hqO := hq5884
      have hF : Fr B0 [10, 11] κ H0 _ := hF.closeN hB (fa_c (fun h9 => by rw [← (hKF _ h9).2, hw.2]; simp) fa_n)
      have hT : WT B0 D cs T (kp κr5886 w (κr5886 w).2.2.1 q5884) _ := hT.closeK w (κr5886 w).2.2.1 q5884 hB (by rw [hw.1]; decide) (by rw [hw.1]; decide) (List.mem_of_getElem? (i := 0) rfl) ⟨⟨0, _, rfl, kp_ok (ok_6 (k := ((κr5886 w).1, (κr5886 w).2.1, _, _)) hw.1 ⟨_, _, _, _, _, _, _, _, _, _, _, _, _, rfl, (by show (κr5886 w).2.2.1 ≤ 600; omega), (by omega), (by omega), (by omega), (by omega), (t2kp t5887_0), (t2kp t5887_9), (kp_su (Or.inr ⟨_, rfl, hq5884.1⟩)), (Or.inr rfl)⟩)⟩, trivial⟩
      have hL : OkL B0 _ := hB.2.2.2.2.2
      have hP : va_P D vwCl [(w, .inr (5, [.ref f5887_0, .int (nI ((κr5886 w).2.2.1)), .int (nI f5887_2), .int (nI f5887_3), .int f5887_4, .int (nI f5887_5), .int f5887_6, .int f5887_7, .int f5887_8, .ref f5887_9, .int (nI f5887_10), .ref q5884, .int f5887_12, .int f5887_13]))] _ := hB.1
      obtain ⟨κ5888, hκ5888⟩ : ∃ κq : KM, κq = (kp κr5886 w (κr5886 w).2.2.1 q5884) := ⟨_, rfl⟩
      have hxf5888 : KF κr5886 κ5888 := by rw [hκ5888]; exact KF.kp
      rw [← hκ5888] at hT
      have hKF := hKF.tr hxf5888
      have hw := (KF.t2 hxf5888 hw (by decide))
      have hKW : ∀ a, (κ a).1 ≠ 0 → a ≠ w → κ5888 a = κ a := fun a h1 h9 => by rw [hκ5888, kp_n h9]; exact hKW a h1 h9
      have hw1 : (κ5888 w).2.2.1 = 0 := by rw [hκ5888, kp_a]; exact hw1
      have ewq : (κ5888 w).2.2.2 = q5884 := by rw [hκ5888, kp_a]
      have hsf : (κ (κ5888 w).2.2.2).1 = 0 := by rw [ewq]; exact hsf
      have hs0 : ¬ (κ5888 w).2.2.2 = 0 := by rw [ewq]; exact hq0
      have hsu : T2 κ5888 (κ5888 w).2.2.2 7 11 := by rw [ewq]; exact hxf5888.t2 hqO (by decide)
      have hp1 : (κ5888 (κ5888 w).2.2.2).2.2.1 ≠ 1 := by rw [ewq, hκ5888, kp_n hqw, ekq5884]; decide
      refine lv_aload_n hx hb dX5_read_77 rfl (lv_at hl 0 rfl) ?_
      refine lv_bipush (v := 59) hx hb dX5_read_78 (by decide) ?_
      refine cv_i (As := [.int 59]) (rest := []) (b := w) ⟨hx, hb, hml, hown, hts⟩ (c_X5_takeMark hT (w := w) hw (x := 59)) (cwV 1 hts gX5_read_X5_takeMark rfl rfl rfl hdX5_takeMark_v ⟨Nat.le_of_ble_eq_true rfl, Nat.le_of_ble_eq_true rfl⟩) hN hE hL (rcv6 hN hT hw.1) rfl rfl hl.1 (Nat.le_of_ble_eq_true rfl) dX5_read_80 (show 5 + 0 ≤ 11 by omega) (show ((0 + 8) + 88) + 0 ≤ 1332 by omega) (fun r5889 H1 locs hL hqr5889 => ?_)
      obtain ⟨hT1, hF1, hqr5889⟩ := hqr5889
      have hF := hF.tr ((hF1.kf hKF).mono (by simp))
      have hT := hT1
      rcases hqr5889 with rfl | rfl
      · refine lv_if_ne (tgt := 88) hx hb dX5_read_83 (by decide) (fun c9 => absurd (by decide) c9) (fun _ => ?_)
        refine lv_null hx hb dX5_read_86 ?_
        refine W.know (fun hg => ?_)
        rw [hH0] at hg
        exact en_n hx hb hr hlocks (by first | exact Or.inl ⟨_, rfl⟩ | exact Or.inr ⟨_, rfl⟩) hL (show 5 ≤ 11 by omega) (show ((0 + 8) + 88) ≤ 1332 by omega) (Or.inl rfl) dX5_read_87 (⟨κ5888, (fun a h1 h2 _ => hKW a h1 h2), (fun a h1 => (hKF a h1).1), hw, hw1, hT, hF, hg.mono (by omega) (by omega), Or.inl rfl⟩)
      · refine lv_if_ne (tgt := 88) hx hb dX5_read_83 (by decide) (fun _ => ?_) (fun c9 => absurd c9 (by decide))
        refine lv_iconst (v := 0) hx hb dX5_read_88 (by decide) ?_
        refine lv_istore_n (lv' := [(2, .int 0), (0, .ref w), (1, .int (nI n))]) hx hb dX5_read_89 rfl hl (by decide) rfl (fun ls hl => ?_)
        refine W.know (fun hg => ?_)
        rw [hH0] at hg
        have hgg : GG9 κ5888 w H0 _ := Or.inl ⟨hp1, hg.mono (by omega) (by omega)⟩
        refine W.tight (k := 8) (n := 714) (by rw [hH0]; exact hgg.all) ?_
        refine lp_m (α := Nat × KM) (nL := 3) (fun a9 => 600 - a9.1) (fun a9 H9 l9 => (a9.1 ≤ 600) ∧ (∀ a, (κ a).1 ≠ 0 → a ≠ w → a9.2 a = κ a) ∧ (KF κ a9.2) ∧ (T2 a9.2 w 6 10) ∧ ((a9.2 w).2.2.1 = 0) ∧ ((κ (a9.2 w).2.2.2).1 = 0) ∧ (¬ (a9.2 w).2.2.2 = 0) ∧ (T2 a9.2 (a9.2 w).2.2.2 7 11) ∧ (GG9 a9.2 w H0 H9) ∧ (WT B0 D cs T a9.2 H9) ∧ (Fr B0 [10, 11] κ H0 H9) ∧ (OkL B0 l9)) (fun a9 => [(2, .int (nI a9.1)), (0, .ref w)]) ?_ (0, κ5888) _ _ _ ⟨(by show (0) ≤ 600; omega), hKW, hKF, hw, hw1, hsf, hs0, hsu, hgg, hT, hF, hL⟩ (lv_sub hl [0, 1] rfl)
        rintro ⟨k, κ9⟩ H locs ls ih5890 ⟨hk, hKW, hKF, hw, hw1, hsf, hs0, hsu, hgg, hT, hF, hL⟩ hl
        have hl : lv_has ls 3 [(2, .int (nI k)), (0, .ref w)] := hl
        have hk : k ≤ 600 := hk
        have hKW : ∀ a, (κ a).1 ≠ 0 → a ≠ w → κ9 a = κ a := hKW
        have hKF : KF κ κ9 := hKF
        have hw : T2 κ9 w 6 10 := hw
        have hw1 : (κ9 w).2.2.1 = 0 := hw1
        have hsf : (κ (κ9 w).2.2.2).1 = 0 := hsf
        have hs0 : ¬ (κ9 w).2.2.2 = 0 := hs0
        have hsu : T2 κ9 (κ9 w).2.2.2 7 11 := hsu
        have hgg : GG9 κ9 w H0 H := hgg
        have hT : WT B0 D cs T κ9 _ := hT
        refine lv_iload_n hx hb dX5_read_90 rfl (lv_at hl 0 rfl) ?_
        refine lv_sipush (v := 600) hx hb dX5_read_91 (by decide) ?_
        refine lv_icmp_ge (tgt := 128) hx hb dX5_read_94 (by decide) (fun c5891 => ?_) (fun c5891 => ?_)
        · have c5891 : 600 ≤ k := (nI_leI (a := 600) (b := k) (by omega) (by omega)).mp c5891
          refine lv_aload_n hx hb dX5_read_128 rfl (lv_at hl 1 rfl) ?_
          obtain ⟨hb5892, e5892, hat5892, hk5892⟩ := hT.o6 hw.1
          obtain ⟨f5892_0, f5892_2, f5892_3, f5892_4, f5892_5, f5892_6, f5892_7, f5892_8, f5892_9, f5892_10, f5892_11, f5892_12, f5892_13, rfl, c5892_1, c5892_2, c5892_3, c5892_5, c5892_10, t5892_0, t5892_9, c5892_11, c5892_p2⟩ := hk5892
          obtain rfl : f5892_11 = .ref (κ9 w).2.2.2 := c5892_p2.resolve_left hs0
          have hP : va_P D vwCl [(w, .inr (5, [.ref f5892_0, .int (nI ((κ9 w).2.2.1)), .int (nI f5892_2), .int (nI f5892_3), .int f5892_4, .int (nI f5892_5), .int f5892_6, .int f5892_7, .int f5892_8, .ref f5892_9, .int (nI f5892_10), .ref (κ9 w).2.2.2, .int f5892_12, .int f5892_13]))] _ := va_P.cons hat5892 va_P.nil
          refine va_get (D := D) (ci := 5) (v := .ref (κ9 w).2.2.2) (C := RX5) (T := TX5) (N := 14) hx hb hts iX5_read_5 hown hN.1 hP 0 rfl rfl 11 (by decide) (hts _ mX5_read_18) (fun _ h9 => h9) rfl dX5_read_129 ?_
          refine cv_v (As := []) (rest := []) (b := (κ9 w).2.2.2) ⟨hx, hb, hml, hown, hts⟩ (KC.grv (c_X6_fillIn hT (w := (κ9 w).2.2.2) hsu)) (cwV 0 hts gX5_read_X6_fillIn rfl rfl rfl hdX6_fillIn_v ⟨Nat.le_of_ble_eq_true rfl, Nat.le_of_ble_eq_true rfl⟩) hN hE hL (rcv7 hN hT hsu.1) rfl rfl hl.1 (Nat.le_of_ble_eq_true rfl) dX5_read_132 (show 8 + 0 ≤ 11 by omega) (show 714 + 0 ≤ 1332 by omega) (fun H1 locs hL hqr5893 => ?_)
          obtain ⟨hgr5893, hqr5893⟩ := hqr5893
          obtain ⟨hT1, hF1⟩ := hqr5893
          have hP : va_P D vwCl [(w, .inr (5, [.ref f5892_0, .int (nI ((κ9 w).2.2.1)), .int (nI f5892_2), .int (nI f5892_3), .int f5892_4, .int (nI f5892_5), .int f5892_6, .int f5892_7, .int f5892_8, .ref f5892_9, .int (nI f5892_10), .ref (κ9 w).2.2.2, .int f5892_12, .int f5892_13]))] _ := hF1.hP (hP.sub [0] rfl) (fa_c ⟨by rw [hw.1]; decide, by rw [hw.2]; first | decide | (simp; done) | (simp [h15a, h15b, h15c]; done) | (simp; omega)⟩ fa_n)
          have hF := hF.tr ((hF1.kf hKF).mono (by simp))
          have hT := hT1
          have hgg : GG9 κ9 w H0 _ := hgg.gr hgr5893
          refine lv_aload_n hx hb dX5_read_135 rfl (lv_at hl 1 rfl) ?_
          refine va_get (D := D) (ci := 5) (v := .ref (κ9 w).2.2.2) (C := RX5) (T := TX5) (N := 14) hx hb hts iX5_read_5 hown hN.1 hP 0 rfl rfl 11 (by decide) (hts _ mX5_read_18) (fun _ h9 => h9) rfl dX5_read_136 ?_
          refine W.know (fun hg => ?_)
          rw [hH0] at hg
          exact en_n hx hb hr hlocks (by first | exact Or.inl ⟨_, rfl⟩ | exact Or.inr ⟨_, rfl⟩) hL (show 8 ≤ 11 by omega) (show 714 ≤ 1332 by omega) (Or.inr ⟨_, rfl⟩) dX5_read_139 (⟨ro κ9, (fun a h1 h2 h3 => by rw [ro_n (by rw [hKW a h1 h2]; exact h3)]; exact hKW a h1 h2), (fun a h1 => (hKF a h1).1), (by rw [T2, ro_n (by rw [hw.2]; decide)]; exact hw), (by rw [ro_n (by rw [hw.2]; decide)]; exact hw1), hT.re, hF, hgg.all, Or.inr ⟨_, rfl, ro_t hsu⟩⟩)
        · have c5891 : ¬ 600 ≤ k := fun h9 => c5891 ((nI_leI (a := 600) (b := k) (by omega) (by omega)).mpr h9)
          refine lv_aload_n hx hb dX5_read_97 rfl (lv_at hl 1 rfl) ?_
          obtain ⟨hb5894, e5894, hat5894, hk5894⟩ := hT.o6 hw.1
          obtain ⟨f5894_0, f5894_2, f5894_3, f5894_4, f5894_5, f5894_6, f5894_7, f5894_8, f5894_9, f5894_10, f5894_11, f5894_12, f5894_13, rfl, c5894_1, c5894_2, c5894_3, c5894_5, c5894_10, t5894_0, t5894_9, c5894_11, c5894_p2⟩ := hk5894
          obtain rfl : f5894_11 = .ref (κ9 w).2.2.2 := c5894_p2.resolve_left hs0
          have hP : va_P D vwCl [(w, .inr (5, [.ref f5894_0, .int (nI ((κ9 w).2.2.1)), .int (nI f5894_2), .int (nI f5894_3), .int f5894_4, .int (nI f5894_5), .int f5894_6, .int f5894_7, .int f5894_8, .ref f5894_9, .int (nI f5894_10), .ref (κ9 w).2.2.2, .int f5894_12, .int f5894_13]))] _ := va_P.cons hat5894 va_P.nil
          refine va_get (D := D) (ci := 5) (v := .int f5894_4) (C := RX5) (T := TX5) (N := 14) hx hb hts iX5_read_5 hown hN.1 hP 0 rfl rfl 4 (by decide) (hts _ mX5_read_19) (fun _ h9 => h9) rfl dX5_read_98 ?_
          refine lv_if_eq (tgt := 128) hx hb dX5_read_101 (by decide) (fun c5895 => ?_) (fun c5895 => ?_)
          · refine lv_aload_n hx hb dX5_read_128 rfl (lv_at hl 1 rfl) ?_
            refine va_get (D := D) (ci := 5) (v := .ref (κ9 w).2.2.2) (C := RX5) (T := TX5) (N := 14) hx hb hts iX5_read_5 hown hN.1 hP 0 rfl rfl 11 (by decide) (hts _ mX5_read_18) (fun _ h9 => h9) rfl dX5_read_129 ?_
            refine cv_v (As := []) (rest := []) (b := (κ9 w).2.2.2) ⟨hx, hb, hml, hown, hts⟩ (KC.grv (c_X6_fillIn hT (w := (κ9 w).2.2.2) hsu)) (cwV 0 hts gX5_read_X6_fillIn rfl rfl rfl hdX6_fillIn_v ⟨Nat.le_of_ble_eq_true rfl, Nat.le_of_ble_eq_true rfl⟩) hN hE hL (rcv7 hN hT hsu.1) rfl rfl hl.1 (Nat.le_of_ble_eq_true rfl) dX5_read_132 (show 8 + 0 ≤ 11 by omega) (show 714 + 0 ≤ 1332 by omega) (fun H1 locs hL hqr5896 => ?_)
            obtain ⟨hgr5896, hqr5896⟩ := hqr5896
            obtain ⟨hT1, hF1⟩ := hqr5896
            have hP : va_P D vwCl [(w, .inr (5, [.ref f5894_0, .int (nI ((κ9 w).2.2.1)), .int (nI f5894_2), .int (nI f5894_3), .int f5894_4, .int (nI f5894_5), .int f5894_6, .int f5894_7, .int f5894_8, .ref f5894_9, .int (nI f5894_10), .ref (κ9 w).2.2.2, .int f5894_12, .int f5894_13]))] _ := hF1.hP (hP.sub [0] rfl) (fa_c ⟨by rw [hw.1]; decide, by rw [hw.2]; first | decide | (simp; done) | (simp [h15a, h15b, h15c]; done) | (simp; omega)⟩ fa_n)
            have hF := hF.tr ((hF1.kf hKF).mono (by simp))
            have hT := hT1
            have hgg : GG9 κ9 w H0 _ := hgg.gr hgr5896
            refine lv_aload_n hx hb dX5_read_135 rfl (lv_at hl 1 rfl) ?_
            refine va_get (D := D) (ci := 5) (v := .ref (κ9 w).2.2.2) (C := RX5) (T := TX5) (N := 14) hx hb hts iX5_read_5 hown hN.1 hP 0 rfl rfl 11 (by decide) (hts _ mX5_read_18) (fun _ h9 => h9) rfl dX5_read_136 ?_
            refine W.know (fun hg => ?_)
            rw [hH0] at hg
            exact en_n hx hb hr hlocks (by first | exact Or.inl ⟨_, rfl⟩ | exact Or.inr ⟨_, rfl⟩) hL (show 8 ≤ 11 by omega) (show 714 ≤ 1332 by omega) (Or.inr ⟨_, rfl⟩) dX5_read_139 (⟨ro κ9, (fun a h1 h2 h3 => by rw [ro_n (by rw [hKW a h1 h2]; exact h3)]; exact hKW a h1 h2), (fun a h1 => (hKF a h1).1), (by rw [T2, ro_n (by rw [hw.2]; decide)]; exact hw), (by rw [ro_n (by rw [hw.2]; decide)]; exact hw1), hT.re, hF, hgg.all, Or.inr ⟨_, rfl, ro_t hsu⟩⟩)
          · refine lv_aload_n hx hb dX5_read_104 rfl (lv_at hl 1 rfl) ?_
            refine cv_i (As := []) (rest := []) (b := w) ⟨hx, hb, hml, hown, hts⟩ (c_X5_readStatement hT (w := w) hw (by first | omega | decide | assumption) (by first | omega | decide | assumption)) (cwV 0 hts gX5_read_X5_readStatement rfl rfl rfl hdX5_readStatement_v ⟨Nat.le_of_ble_eq_true rfl, Nat.le_of_ble_eq_true rfl⟩) hN hE hL (rcv6 hN hT hw.1) rfl rfl hl.1 (Nat.le_of_ble_eq_true rfl) dX5_read_105 (show 8 + 3 ≤ 11 by omega) (show 714 + 618 ≤ 1332 by omega) (fun r5897 H1 locs hL hqr5897 => ?_)
            obtain ⟨κr5897, hxr5897, hT1, hF1, hsr5897, hqr5897⟩ := hqr5897
            have hF := hF.tr ((hF1.kf hKF).mono (by simp))
            have hT := hT1
            have hxfr5897 := KSF hxr5897 hsu hsr5897
            have ew9 : κr5897 w = κ9 w := hxr5897 w (by rw [hw.1]; decide) (ne_c hw.1 hsu.1 (by decide))
            have hKW : ∀ a, (κ a).1 ≠ 0 → a ≠ w → κr5897 a = κ a := fun a h1 h2 => (hxr5897 a (by rw [hKW a h1 h2]; exact h1) (fun e9 => h1 (by rw [e9]; exact hsf))).trans (hKW a h1 h2)
            obtain ⟨hgs, hqr5897⟩ := hqr5897
            have hgg : GG9 κr5897 w H0 _ := hgg.step ew9 hgs
            have hsf : (κ (κr5897 w).2.2.2).1 = 0 := by rw [ew9]; exact hsf
            have hs0 : ¬ (κr5897 w).2.2.2 = 0 := by rw [ew9]; exact hs0
            have hsu : T2 κr5897 (κr5897 w).2.2.2 7 11 := by rw [ew9]; exact hsr5897
            have hw1 : (κr5897 w).2.2.1 = 0 := by rw [ew9]; exact hw1
            have hKF := hKF.tr hxfr5897
            have hw := (KF.t2 hxfr5897 hw (by decide))
            rcases hqr5897 with rfl | rfl
            · refine lv_if_eq (tgt := 120) hx hb dX5_read_108 (by decide) (fun _ => ?_) (fun c9 => absurd (by decide) c9)
              refine lv_null hx hb dX5_read_120 ?_
              refine W.know (fun hg => ?_)
              rw [hH0] at hg
              exact en_n hx hb hr hlocks (by first | exact Or.inl ⟨_, rfl⟩ | exact Or.inr ⟨_, rfl⟩) hL (show 11 ≤ 11 by omega) (show (714 + 618) ≤ 1332 by omega) (Or.inl rfl) dX5_read_121 (⟨κr5897, (fun a h1 h2 _ => hKW a h1 h2), (fun a h1 => (hKF a h1).1), hw, hw1, hT, hF, hgg.all, Or.inl rfl⟩)
            · refine lv_if_eq (tgt := 120) hx hb dX5_read_108 (by decide) (fun c9 => absurd c9 (by decide)) (fun _ => ?_)
              refine lv_aload_n hx hb dX5_read_111 rfl (lv_at hl 1 rfl) ?_
              refine lv_bipush (v := 59) hx hb dX5_read_112 (by decide) ?_
              refine cv_i (As := [.int 59]) (rest := []) (b := w) ⟨hx, hb, hml, hown, hts⟩ (KC.gri (c_X5_takeMark hT (w := w) hw (x := 59))) (cwV 1 hts gX5_read_X5_takeMark rfl rfl rfl hdX5_takeMark_v ⟨Nat.le_of_ble_eq_true rfl, Nat.le_of_ble_eq_true rfl⟩) hN hE hL (rcv6 hN hT hw.1) rfl rfl hl.1 (Nat.le_of_ble_eq_true rfl) dX5_read_114 (show 11 + 0 ≤ 11 by omega) (show (714 + 618) + 0 ≤ 1332 by omega) (fun r5898 H1 locs hL hqr5898 => ?_)
              obtain ⟨hgr5898, hqr5898⟩ := hqr5898
              obtain ⟨hT1, hF1, hqr5898⟩ := hqr5898
              have hF := hF.tr ((hF1.kf hKF).mono (by simp))
              have hT := hT1
              have hgg : GG9 κr5897 w H0 _ := hgg.gr hgr5898
              rcases hqr5898 with rfl | rfl
              · refine lv_if_ne (tgt := 122) hx hb dX5_read_117 (by decide) (fun c9 => absurd (by decide) c9) (fun _ => ?_)
                refine lv_null hx hb dX5_read_120 ?_
                refine W.know (fun hg => ?_)
                rw [hH0] at hg
                exact en_n hx hb hr hlocks (by first | exact Or.inl ⟨_, rfl⟩ | exact Or.inr ⟨_, rfl⟩) hL (show 11 ≤ 11 by omega) (show (714 + 618) ≤ 1332 by omega) (Or.inl rfl) dX5_read_121 (⟨κr5897, (fun a h1 h2 _ => hKW a h1 h2), (fun a h1 => (hKF a h1).1), hw, hw1, hT, hF, hgg.all, Or.inl rfl⟩)
              · refine lv_if_ne (tgt := 122) hx hb dX5_read_117 (by decide) (fun _ => ?_) (fun c9 => absurd c9 (by decide))
                refine lv_iinc (v := (nI (k + 1))) (lv' := [(2, .int (nI (k + 1))), (0, .ref w)]) hx hb dX5_read_122 hl (k := 0) rfl (nI_add _ 1) (by decide) rfl (fun ls hl => ?_)
                refine lv_goto (tgt := 90) hx hb dX5_read_125 (by decide) ?_
                refine W.tight (k := 8) (n := 714) (by rw [hH0]; exact hgg.all) ?_
                exact ih5890 ((k + 1), κr5897) _ _ _ (by show 600 - ((k + 1)) < 600 - k; omega) ⟨(by show ((k + 1)) ≤ 600; omega), hKW, hKF, hw, hw1, hsf, hs0, hsu, hgg, hT, hF, hL⟩ (lv_sub hl [0, 1] rfl)
