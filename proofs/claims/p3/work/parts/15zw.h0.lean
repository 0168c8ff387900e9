theorem mJ7_copyOf_59c91_7 : (.arrayClass .int : Cond) ∈ wsJ7_copyOf_59c91 := List.mem_of_getElem? (i := 7) (by decide +kernel)
theorem mJ7_copyOf_59c91_8 : (.methodLink RJ7 304 Lib.Math.min.name : Cond) ∈ wsJ7_copyOf_59c91 := List.mem_of_getElem? (i := 8) (by decide +kernel)
theorem mJ7_copyOf_59c91_9 : (.static Lib.Math.min.name : Cond) ∈ wsJ7_copyOf_59c91 := List.mem_of_getElem? (i := 9) (by decide +kernel)
theorem mJ7_copyOf_59c91_10 : (.initialized "java/lang/Math" : Cond) ∈ wsJ7_copyOf_59c91 := List.mem_of_getElem? (i := 10) (by decide +kernel)
theorem mJ7_copyOf_59c91_11 : (.code Lib.Math.min.name Lib.Math.min.code 2 (some .int) : Cond) ∈ wsJ7_copyOf_59c91 := List.mem_of_getElem? (i := 11) (by decide +kernel)
theorem mJ7_copyOf_59c91_12 : (.methodLink RJ7 150 arraycopyName : Cond) ∈ wsJ7_copyOf_59c91 := List.mem_of_getElem? (i := 12) (by decide +kernel)
theorem mJ7_copyOf_59c91_13 : (.native arraycopyName : Cond) ∈ wsJ7_copyOf_59c91 := List.mem_of_getElem? (i := 13) (by decide +kernel)
theorem mJ7_copyOf_59c91_14 : (.static arraycopyName : Cond) ∈ wsJ7_copyOf_59c91 := List.mem_of_getElem? (i := 14) (by decide +kernel)
theorem mJ7_copyOf_59c91_15 : (.initialized "java/lang/System" : Cond) ∈ wsJ7_copyOf_59c91 := List.mem_of_getElem? (i := 15) (by decide +kernel)
theorem mJ7_copyOf_59c91_1 : (.methodLink RJ7 316 ⟨"[I", "clone", "()Ljava/lang/Object;"⟩ : Cond) ∈ wsJ7_copyOf_59c91 := List.mem_of_getElem? (i := 1) (by decide +kernel)
theorem mJ7_copyOf_59c91_2 : (.sameMethod "[I" "java/lang/Object" "clone" "()Ljava/lang/Object;" : Cond) ∈ wsJ7_copyOf_59c91 := List.mem_of_getElem? (i := 2) (by decide +kernel)
theorem mJ7_copyOf_59c91_3 : (.native ⟨"java/lang/Object", "clone", "()Ljava/lang/Object;"⟩ : Cond) ∈ wsJ7_copyOf_59c91 := List.mem_of_getElem? (i := 3) (by decide +kernel)
theorem mJ7_copyOf_59c91_4 : (.instanceMethod ⟨"java/lang/Object", "clone", "()Ljava/lang/Object;"⟩ : Cond) ∈ wsJ7_copyOf_59c91 := List.mem_of_getElem? (i := 4) (by decide +kernel)
theorem mJ7_copyOf_59c91_5 : (.selects "[I" ⟨"[I", "clone", "()Ljava/lang/Object;"⟩ ⟨"java/lang/Object", "clone", "()Ljava/lang/Object;"⟩ : Cond) ∈ wsJ7_copyOf_59c91 := List.mem_of_getElem? (i := 5) (by decide +kernel)
theorem mJ7_copyOf_59c91_6 : (.classLink RJ7 317 "[I" : Cond) ∈ wsJ7_copyOf_59c91 := List.mem_of_getElem? (i := 6) (by decide +kernel)
set_option maxHeartbeats 4000000 in
set_option maxRecDepth 100000 in
theorem c_J7_copyOf_59c91 {l : Launch} {D : va_G} {cs : Nat → ClassId} {B0 : Nat} {H0 : Heap} {v n : Nat} {g : Nat → Int32} (hvb : B0 ≤ v) (hva : va_at D vwCl (v, .inl (cs 0, 600, .inl g)) H0) (hn : n ≤ 600) : KC l yJ7_copyOf_59c91 wsJ7_copyOf_59c91 1 60 1 600 D cs B0 H0 [.ref v, .int (nI n)] (Qr (fun r H => r = H0.size ∧ H.size = r + 1 ∧ (∀ x, x < r → H[x]? = H0[x]?) ∧ ∃ f, va_at D vwCl (r, .inl (cs 0, n, .inl f)) H)) := by
  refine KC.of cJ7_copyOf_59c91 3 (some (.array .int)) (by decide) rfl (Nat.le_of_ble_eq_true rfl) ?_
  intro p e s m below meth c ls hx hb hr hml hown hts hlocks hin hN hE hH0 hl
  have hown : s.vm.findClass RJ7 = some m.cls := hown
  have hl : lv_has ls 3 [(0, .ref v), (1, .int (nI n))] := hl
  have hL : OkL B0 [] := OkL.nil
  have hP : va_P D vwCl [(v, .inl (cs 0, 600, .inl g))] _ := va_P.cons hva va_P.nil
  have hb0 : B0 ≤ H0.size := Nat.le_trans hvb (Nat.le_of_lt hva.lt)
  refine lv_iload_n hx hb dJ7_copyOf_59c91_0 rfl (lv_at hl 1 rfl) ?_
  refine lv_aload_n hx hb dJ7_copyOf_59c91_1 rfl (lv_at hl 0 rfl) ?_
  refine va_alen (v := 600) hx hb hN.1 hP 0 0 rfl rfl rfl dJ7_copyOf_59c91_2 ?_
  refine lv_icmp_ne (tgt := 14) hx hb dJ7_copyOf_59c91_3 (by decide) (fun c2798 => ?_) (fun c2798 => ?_)
  · have c2798 : ¬ n = 600 := fun h9 => c2798 ((nI_eq (a := n) (b := 600) (by omega) (by omega)).mpr h9)
    refine lv_iload_n hx hb dJ7_copyOf_59c91_14 rfl (lv_at hl 1 rfl) ?_
    have hB : Bx B0 D _ [(v, .inl (cs 0, 600, .inl g))] [] _ _ := Bx.of (fun a => a) hL hP (fa_c hvb fa_n) (by simp)
    refine nw_a (atype := .int) (ty := .int) (N' := n) (a0 := (n, .inl (fun _ => 0))) 0 hN rfl hx hb (hts _ mJ7_copyOf_59c91_7) rfl (fun _ => rfl) (nI_pos (n := n) (by omega)) (nI_clamp (n := n) (by omega)) (show n * _ ≤ _ by simp only [componentBytes]; omega) (show 0 + 1 ≤ 1 by omega) (show 0 + n ≤ 600 by omega) dJ7_copyOf_59c91_15 (fun q2799 H heq2799 hzq2799 hoq2799 hatq2799 => ?_)
    have hB := hB.nwm heq2799 hzq2799 hoq2799 hatq2799 hb0
    have hB : Bx B0 D _ [(v, .inl (cs 0, 600, .inl g)), (q2799, .inl (cs 0, n, .inl (fun _ => 0)))] [q2799] _ _ := hB
    refine lv_astore_n (lv' := [(2, .ref q2799), (0, .ref v), (1, .int (nI n))]) hx hb dJ7_copyOf_59c91_17 rfl hl (by decide) rfl (fun ls hl => ?_)
    refine lv_aload_n hx hb dJ7_copyOf_59c91_18 rfl (lv_at hl 1 rfl) ?_
    refine lv_iconst (v := 0) hx hb dJ7_copyOf_59c91_19 (by decide) ?_
    refine lv_aload_n hx hb dJ7_copyOf_59c91_20 rfl (lv_at hl 0 rfl) ?_
    refine lv_iconst (v := 0) hx hb dJ7_copyOf_59c91_21 (by decide) ?_
    refine lv_aload_n hx hb dJ7_copyOf_59c91_22 rfl (lv_at hl 1 rfl) ?_
    refine va_alen (v := 600) hx hb hN.1 hB.1 0 0 rfl rfl rfl dJ7_copyOf_59c91_23 ?_
    refine lv_iload_n hx hb dJ7_copyOf_59c91_24 rfl (lv_at hl 2 rfl) ?_
    refine va_mmin hx hb (hml.trans hl.1.symm) hown (hts _ mJ7_copyOf_59c91_8) (hts _ mJ7_copyOf_59c91_9) (hts _ mJ7_copyOf_59c91_10) (hts _ mJ7_copyOf_59c91_11) (Nat.le_of_ble_eq_true rfl) (Nat.le_of_ble_eq_true rfl) (show 1 ≤ 1 by omega) (show (0 + n) ≤ 600 by omega) dJ7_copyOf_59c91_25 ?_
    obtain ⟨m2800, hm2800, em2800⟩ := nI_min (a := 600) (b := n) (by omega) (by omega)
    refine tp_i (nI m2800) em2800 ?_
    refine b_cpy hx hb (hml.trans hl.1.symm) hown (hts _ mJ7_copyOf_59c91_12) (hts _ mJ7_copyOf_59c91_13) (hts _ mJ7_copyOf_59c91_14) (hts _ mJ7_copyOf_59c91_15) hN hB 0 1 rfl rfl (nI_pos (n := 0) (by omega)) (nI_pos (n := 0) (by omega)) (nI_pos (n := m2800) (by omega)) (by rw [show (0 : Int32).toNatClampNeg = 0 from nI_clamp (n := 0) (by omega), show ((nI m2800) : Int32).toNatClampNeg = m2800 from nI_clamp (n := m2800) (by omega)]; omega) (by rw [show (0 : Int32).toNatClampNeg = 0 from nI_clamp (n := 0) (by omega), show ((nI m2800) : Int32).toNatClampNeg = m2800 from nI_clamp (n := m2800) (by omega)]; omega) (.inr ⟨rfl, List.mem_of_getElem? (i := 0) rfl⟩) (Nat.le_of_ble_eq_true rfl) (Nat.le_of_ble_eq_true rfl) dJ7_copyOf_59c91_28 (fun H locs hB => ?_)
    generalize va_cpy _ _ _ _ _ = g2801 at hB
    have hB : Bx B0 D _ [(v, .inl (cs 0, 600, .inl g)), (q2799, .inl (cs 0, n, .inl g2801))] [q2799] _ _ := hB
    refine lv_aload_n hx hb dJ7_copyOf_59c91_31 rfl (lv_at hl 0 rfl) ?_
    have hL : OkL B0 _ := hB.2.2.2.2.2
    refine W.know (fun hg => ?_)
    rw [hH0] at hg
    exact en_r hx hb hr hlocks (by first | exact Or.inl ⟨_, rfl⟩ | exact Or.inr ⟨_, rfl⟩) hL (show 1 ≤ 1 by omega) (show (0 + n) ≤ 600 by omega) dJ7_copyOf_59c91_32 (⟨heq2799, (by have h1 := hg.2.1; have h2 := (hB.1 1 _ rfl).lt; have h2 : q2799 < _ := h2; omega), (fun x hx9 => hB.2.2.2.1 x (by omega) (by simp; omega)), _, hB.1 1 _ rfl⟩)
  · have c2798 : n = 600 := (nI_eq (a := n) (b := 600) (by omega) (by omega)).mp c2798
    refine lv_aload_n hx hb dJ7_copyOf_59c91_6 rfl (lv_at hl 0 rfl) ?_
    refine nw_cl hx hb (hml.trans hl.1.symm) hown (hts _ mJ7_copyOf_59c91_1) (hts _ mJ7_copyOf_59c91_2) (hts _ mJ7_copyOf_59c91_3) (hts _ mJ7_copyOf_59c91_4) (hts _ mJ7_copyOf_59c91_5) hN (hP 0 _ rfl) (Nat.le_of_ble_eq_true rfl) (Nat.le_of_ble_eq_true rfl) (show 0 + 1 ≤ 1 by omega) (show 0 + 600 ≤ 600 by omega) dJ7_copyOf_59c91_7 (fun q2802 H heq2802 hzq2802 hoq2802 hatq2802 => ?_)
    refine nw_ca hx hb hown (hts _ mJ7_copyOf_59c91_6) hN hatq2802 dJ7_copyOf_59c91_10 ?_
    refine W.know (fun hg => ?_)
    rw [hH0] at hg
    obtain rfl : n = 600 := c2798
    exact en_r hx hb hr hlocks (by first | exact Or.inl ⟨_, rfl⟩ | exact Or.inr ⟨_, rfl⟩) hL (show 1 ≤ 1 by omega) (show (0 + 600) ≤ 600 by omega) dJ7_copyOf_59c91_13 (⟨heq2802, hzq2802, hoq2802, _, hatq2802⟩)
theorem mX0_init_1 : (.methodLink RX0 1 objectInit : Cond) ∈ wsX0_init := List.mem_of_getElem? (i := 1) (by decide +kernel)
theorem mX0_init_2 : (.instanceMethod objectInit : Cond) ∈ wsX0_init := List.mem_of_getElem? (i := 2) (by decide +kernel)
theorem mX0_init_3 : (.code objectInit ⟨#[0xb1]⟩ 1 none : Cond) ∈ wsX0_init := List.mem_of_getElem? (i := 3) (by decide +kernel)
theorem mX0_init_4 : (.arrayClass .int : Cond) ∈ wsX0_init := List.mem_of_getElem? (i := 4) (by decide +kernel)
theorem mX0_init_5 : (.fieldLink RX0 9 "OneBeat$Formula" "stack" "[I" : Cond) ∈ wsX0_init := List.mem_of_getElem? (i := 5) (by decide +kernel)
theorem iX0_init_0 : ∀ w ∈ wsX00, w ∈ wsX0_init := fun w h => List.mem_of_mem_drop (List.mem_of_mem_take ((show wsX00 = (wsX0_init.drop 25).take 2 by decide +kernel) ▸ h))
theorem hdJ7_copyOf_59c91_o : yJ7_copyOf_59c91.cls ≠ "java/lang/invoke/MethodHandle" ∧ yJ7_copyOf_59c91.cls ≠ "java/lang/invoke/VarHandle" ∧ (parseMethodDescriptor yJ7_copyOf_59c91.desc).map (fun d => d.parameters.length) = some 2 := by decide +kernel
theorem mX0_init_6 : (.fieldLink RX0 19 "OneBeat$Formula" "codes" "[I" : Cond) ∈ wsX0_init := List.mem_of_getElem? (i := 6) (by decide +kernel)
set_option maxHeartbeats 4000000 in
set_option maxRecDepth 100000 in
theorem c_X0_init {l : Launch} {D : va_G} {cs : Nat → ClassId} {B0 T : Nat} {κ : KM} {H0 : Heap} (hT : WT B0 D cs T κ H0) {w : Nat} (hfw : (κ w).1 = 0) (hwb : B0 ≤ w) (hwa : va_at D vwCl (w, .inr (0, [.null, .null])) H0) {v n : Nat} (hv : T2 κ v 17 10) (hn : n ≤ 600) : KC l yX0_init wsX0_init 2 82 2 616 D cs B0 H0 [.ref w, .ref v, .int (nI n)] (Qv (fun H => ∃ κ1, KX κ κ1 ∧ WT B0 D cs T κ1 H ∧ Fr B0 [] κ H0 H ∧ T2 κ1 w 1 15)) := by
  refine KC.of cX0_init 3 none (by decide) rfl (Nat.le_of_ble_eq_true rfl) ?_
  intro p e s m below meth c ls hx hb hr hml hown hts hlocks hin hN hE hH0 hl
  have hown : s.vm.findClass RX0 = some m.cls := hown
  have hl : lv_has ls 3 [(0, .ref w), (1, .ref v), (2, .int (nI n))] := hl
  have hL : OkL B0 [] := OkL.nil
  have hF : Fr B0 [] κ H0 H0 := Fr.rf
  have hP : va_P D vwCl [(w, .inr (0, [.null, .null]))] _ := va_P.cons hwa va_P.nil
  have hb0 : B0 ≤ H0.size := Nat.le_trans hwb (Nat.le_of_lt hwa.lt)
  refine lv_aload_n hx hb dX0_init_0 rfl (lv_at hl 0 rfl) ?_
  refine W.objInit hx hb hown (hts _ mX0_init_1) (hts _ mX0_init_2) (hts _ mX0_init_3) rfl (by rw [hml]; exact hl.1) rfl dX0_init_1 (Nat.le_of_ble_eq_true rfl) (Nat.le_of_ble_eq_true rfl) ?_
  refine W.eq (g2 := F0 m 4 ls []) rfl ?_
  refine lv_aload_n hx hb dX0_init_4 rfl (lv_at hl 0 rfl) ?_
  refine lv_bipush (v := 16) hx hb dX0_init_5 (by decide) ?_
  have hB : Bx B0 D _ [(w, .inr (0, [.null, .null]))] [] _ _ := Bx.of (fun a => (κ a).1) hL hP (fa_c hwb fa_n) (by simp only [List.map_cons, List.map_nil, hfw]; decide)
  refine nw_a (atype := .int) (ty := .int) (N' := 16) (a0 := (16, .inl (fun _ => 0))) 0 hN rfl hx hb (hts _ mX0_init_4) rfl (fun _ => rfl) (nI_pos (n := 16) (by omega)) (nI_clamp (n := 16) (by omega)) (show 16 * _ ≤ _ by simp only [componentBytes]; omega) (show 0 + 1 ≤ 2 by omega) (show 0 + 16 ≤ 616 by omega) dX0_init_7 (fun q2803 H heq2803 hzq2803 hoq2803 hatq2803 => ?_)
  have hgeq2803 : _ ≤ q2803 := Nat.le_trans hB.2.2.1 (Nat.le_of_eq heq2803.symm)
  have hbq2803 : B0 ≤ q2803 := Nat.le_trans hb0 hgeq2803
  have hfq2803 : (κ q2803).1 = 0 := hT.fresh hgeq2803
  have hB := hB.nwm heq2803 hzq2803 hoq2803 hatq2803 hb0
  have hB : Bx B0 D _ [(w, .inr (0, [.null, .null])), (q2803, .inl (cs 0, 16, .inl (fun _ => 0)))] [q2803] _ _ := hB
  refine b_putF (D := D) (ci := 0) (v := .ref q2803) (ty := .array .int) (C := RX0) (T := TX0) (N := 2) hx hb hts iX0_init_0 tyX0 tyX0_ok nmX0 hown hN hB 0 rfl rfl 1 (by decide) (hts _ mX0_init_5) (fun _ h9 => h9) rfl hin rfl (by decide +kernel) rfl rfl (Nat.le_of_ble_eq_true rfl) (.inl rfl) dX0_init_9 (fun H locs hB => ?_)
  have hB : Bx B0 D _ [(w, .inr (0, [.null, .ref q2803])), (q2803, .inl (cs 0, 16, .inl (fun _ => 0)))] [w, q2803] _ _ := hB
  refine lv_aload_n hx hb dX0_init_12 rfl (lv_at hl 0 rfl) ?_
  refine lv_aload_n hx hb dX0_init_13 rfl (lv_at hl 1 rfl) ?_
  refine lv_iload_n hx hb dX0_init_14 rfl (lv_at hl 2 rfl) ?_
  refine lv_if_ge (tgt := 22) hx hb dX0_init_15 (by decide) (fun c2804 => ?_) (fun c2804 => ?_)
  · have c2804 : 0 ≤ n := (nI_leI (a := 0) (b := n) (by omega) (by omega)).mp c2804
    refine lv_iload_n hx hb dX0_init_22 rfl (lv_at hl 2 rfl) ?_
    obtain ⟨hb2805, e2805, hat2805, hk2805⟩ := hT.o17 hv.1
    obtain ⟨g2805, rfl⟩ := hk2805
    have hB : Bx B0 D _ [(w, .inr (0, [.null, .ref q2803])), (q2803, .inl (cs 0, 16, .inl (fun _ => 0))), (v, .inl (cs 0, 600, .inl g2805))] [w, q2803] _ _ := hB.more hat2805 hb2805 (fa_c (ne_c hfw hv.1 (by decide))  (fa_c (nw_ne hat2805 hgeq2803) fa_n)) (fa_c (ne_c hfw hv.1 (by decide))  (fa_c (nw_ne hat2805 hgeq2803) fa_n))
    have hL : OkL B0 _ := hB.2.2.2.2.2
    refine cs_r (As := [.ref v, .int (nI n)]) (rest := [.ref w]) ⟨hx, hb, hml, hown, hts⟩ (c_J7_copyOf_59c91 (v := v) (n := n) hb2805 (hB.1 2 _ rfl) (by omega)) (va_cwS 2 hts gX0_init_J7_copyOf_59c91 rfl rfl rfl hdJ7_copyOf_59c91_o ⟨Nat.le_of_ble_eq_true rfl, Nat.le_of_ble_eq_true rfl⟩) hN hE hL rfl rfl hl.1 (Nat.le_of_ble_eq_true rfl) dX0_init_23 (show 1 + 1 ≤ 2 by omega) (show (0 + 16) + 600 ≤ 616 by omega) (fun q2806 H1 locs hL hqq2806 => ?_)
    obtain ⟨heq2806, hzq2806, hoq2806, gq2806, hatq2806⟩ := hqq2806
    have hB := hB.lc hL
    have hgeq2806 : _ ≤ q2806 := Nat.le_trans hB.2.2.1 (Nat.le_of_eq heq2806.symm)
    have hbq2806 : B0 ≤ q2806 := Nat.le_trans hb0 hgeq2806
    have hfq2806 : (κ q2806).1 = 0 := hT.fresh hgeq2806
    have hB := hB.nwm heq2806 hzq2806 hoq2806 hatq2806 hb0
    have hB : Bx B0 D _ [(w, .inr (0, [.null, .ref q2803])), (q2803, .inl (cs 0, 16, .inl (fun _ => 0))), (v, .inl (cs 0, 600, .inl g2805)), (q2806, .inl (cs 0, n, .inl gq2806))] [q2806, w, q2803] _ _ := hB
    refine b_putF (D := D) (ci := 0) (v := .ref q2806) (ty := .array .int) (C := RX0) (T := TX0) (N := 2) hx hb hts iX0_init_0 tyX0 tyX0_ok nmX0 hown hN hB 0 rfl rfl 0 (by decide) (hts _ mX0_init_6) (fun _ h9 => h9) rfl hin rfl (by decide +kernel) rfl rfl (Nat.le_of_ble_eq_true rfl) (.inr ⟨rfl, List.mem_of_getElem? (i := 1) rfl⟩) dX0_init_26 (fun H locs hB => ?_)
    have hB : Bx B0 D _ [(w, .inr (0, [.ref q2806, .ref q2803])), (q2803, .inl (cs 0, 16, .inl (fun _ => 0))), (v, .inl (cs 0, 600, .inl g2805)), (q2806, .inl (cs 0, n, .inl gq2806))] [q2806, w, q2803] _ _ := hB
    obtain ⟨κ2807, hκ2807⟩ : ∃ κq : KM, κq = (ku (ku (ku κ w (1, 15, 0, 0)) q2803 (22, 16, 0, 0)) q2806 (21, 15, 0, 0)) := ⟨_, rfl⟩
    have hx2807 : KX κ κ2807 := by rw [hκ2807]; exact (((KX.ku hfw).tr (KX.ku (by rw [ku_n (fun e9 => absurd (hB.2.1.1 1 0 _ _ rfl rfl e9) (by decide))]; exact hfq2803))).tr (KX.ku (by rw [ku_n (fun e9 => absurd (hB.2.1.1 3 1 _ _ rfl rfl e9) (by decide)), ku_n (fun e9 => absurd (hB.2.1.1 3 0 _ _ rfl rfl e9) (by decide))]; exact hfq2806)))
    have ew : κ2807 w = (1, 15, 0, 0) := by rw [hκ2807, ku_n (fun e9 => absurd (hB.2.1.1 0 3 _ _ rfl rfl e9) (by decide)), ku_n (fun e9 => absurd (hB.2.1.1 0 1 _ _ rfl rfl e9) (by decide)), ku_a]
    have hw : T2 κ2807 w 1 15 := ⟨by rw [ew], by rw [ew]⟩
    have eq2803 : κ2807 q2803 = (22, 16, 0, 0) := by rw [hκ2807, ku_n (fun e9 => absurd (hB.2.1.1 1 3 _ _ rfl rfl e9) (by decide)), ku_a]
    have hq2803 : T2 κ2807 q2803 22 16 := ⟨by rw [eq2803], by rw [eq2803]⟩
    have eq2806 : κ2807 q2806 = (21, 15, 0, 0) := by rw [hκ2807, ku_a]
    have hq2806 : T2 κ2807 q2806 21 15 := ⟨by rw [eq2806], by rw [eq2806]⟩
    have hx9 := hx2807
    have hT : WT B0 D cs T κ2807 _ := hT.closeN hB hx2807 (fun a9 h9 => by rw [hκ2807, ku_n (fun e9 => h9 (by rw [e9]; exact List.mem_of_getElem? (i := 0) rfl)), ku_n (fun e9 => h9 (by rw [e9]; exact List.mem_of_getElem? (i := 2) rfl)), ku_n (fun e9 => h9 (by rw [e9]; exact List.mem_of_getElem? (i := 1) rfl))]) ⟨⟨3, _, rfl, ok_21 hq2806.1 ⟨_, _, rfl, (by omega)⟩⟩, ⟨⟨0, _, rfl, ok_1 hw.1 ⟨_, _, rfl, hq2806, hq2803⟩⟩, ⟨⟨1, _, rfl, ok_22 hq2803.1 ⟨_, rfl⟩⟩, trivial⟩⟩⟩
    have hF : Fr B0 [] κ H0 _ := hF.closeN hB (fa_c (fun h9 => absurd hfq2806 h9) (fa_c (fun h9 => absurd hfw h9) (fa_c (fun h9 => absurd hfq2803 h9) fa_n)))
    have hL : OkL B0 _ := hB.2.2.2.2.2
    have hKF : KF κ κ2807 := hx2807.f
    have hKX : KX κ κ2807 := hx2807
    have hv := (hx2807.f.t2 hv (by decide))
    have hP : va_P D vwCl [(w, .inr (0, [.ref q2806, .ref q2803])), (q2803, .inl (cs 0, 16, .inl (fun _ => 0))), (v, .inl (cs 0, 600, .inl g2805)), (q2806, .inl (cs 0, n, .inl gq2806))] _ := hB.1
    exact en_v hx hb hr hlocks hL (show 2 ≤ 2 by omega) (show ((0 + 16) + 600) ≤ 616 by omega) dX0_init_29 (⟨_, hKX, hT, hF, hw⟩)
  · have c2804 : ¬ 0 ≤ n := fun h9 => c2804 ((nI_leI (a := 0) (b := n) (by omega) (by omega)).mpr h9)
    refine lv_iconst (v := 0) hx hb dX0_init_18 (by decide) ?_
    refine lv_goto (tgt := 23) hx hb dX0_init_19 (by decide) ?_
    obtain ⟨hb2808, e2808, hat2808, hk2808⟩ := hT.o17 hv.1
    obtain ⟨g2808, rfl⟩ := hk2808
    have hB : Bx B0 D _ [(w, .inr (0, [.null, .ref q2803])), (q2803, .inl (cs 0, 16, .inl (fun _ => 0))), (v, .inl (cs 0, 600, .inl g2808))] [w, q2803] _ _ := hB.more hat2808 hb2808 (fa_c (ne_c hfw hv.1 (by decide))  (fa_c (nw_ne hat2808 hgeq2803) fa_n)) (fa_c (ne_c hfw hv.1 (by decide))  (fa_c (nw_ne hat2808 hgeq2803) fa_n))
    have hL : OkL B0 _ := hB.2.2.2.2.2
    refine cs_r (As := [.ref v, .int 0]) (rest := [.ref w]) ⟨hx, hb, hml, hown, hts⟩ (c_J7_copyOf_59c91 (v := v) (n := 0) hb2808 (hB.1 2 _ rfl) (by omega)) (va_cwS 2 hts gX0_init_J7_copyOf_59c91 rfl rfl rfl hdJ7_copyOf_59c91_o ⟨Nat.le_of_ble_eq_true rfl, Nat.le_of_ble_eq_true rfl⟩) hN hE hL rfl rfl hl.1 (Nat.le_of_ble_eq_true rfl) dX0_init_23 (show 1 + 1 ≤ 2 by omega) (show (0 + 16) + 600 ≤ 616 by omega) (fun q2809 H1 locs hL hqq2809 => ?_)
    obtain ⟨heq2809, hzq2809, hoq2809, gq2809, hatq2809⟩ := hqq2809
    have hB := hB.lc hL
    have hgeq2809 : _ ≤ q2809 := Nat.le_trans hB.2.2.1 (Nat.le_of_eq heq2809.symm)
    have hbq2809 : B0 ≤ q2809 := Nat.le_trans hb0 hgeq2809
    have hfq2809 : (κ q2809).1 = 0 := hT.fresh hgeq2809
    have hB := hB.nwm heq2809 hzq2809 hoq2809 hatq2809 hb0
    have hB : Bx B0 D _ [(w, .inr (0, [.null, .ref q2803])), (q2803, .inl (cs 0, 16, .inl (fun _ => 0))), (v, .inl (cs 0, 600, .inl g2808)), (q2809, .inl (cs 0, 0, .inl gq2809))] [q2809, w, q2803] _ _ := hB
    refine b_putF (D := D) (ci := 0) (v := .ref q2809) (ty := .array .int) (C := RX0) (T := TX0) (N := 2) hx hb hts iX0_init_0 tyX0 tyX0_ok nmX0 hown hN hB 0 rfl rfl 0 (by decide) (hts _ mX0_init_6) (fun _ h9 => h9) rfl hin rfl (by decide +kernel) rfl rfl (Nat.le_of_ble_eq_true rfl) (.inr ⟨rfl, List.mem_of_getElem? (i := 1) rfl⟩) dX0_init_26 (fun H locs hB => ?_)
    have hB : Bx B0 D _ [(w, .inr (0, [.ref q2809, .ref q2803])), (q2803, .inl (cs 0, 16, .inl (fun _ => 0))), (v, .inl (cs 0, 600, .inl g2808)), (q2809, .inl (cs 0, 0, .inl gq2809))] [q2809, w, q2803] _ _ := hB
    obtain ⟨κ2810, hκ2810⟩ : ∃ κq : KM, κq = (ku (ku (ku κ w (1, 15, 0, 0)) q2803 (22, 16, 0, 0)) q2809 (21, 15, 0, 0)) := ⟨_, rfl⟩
    have hx2810 : KX κ κ2810 := by rw [hκ2810]; exact (((KX.ku hfw).tr (KX.ku (by rw [ku_n (fun e9 => absurd (hB.2.1.1 1 0 _ _ rfl rfl e9) (by decide))]; exact hfq2803))).tr (KX.ku (by rw [ku_n (fun e9 => absurd (hB.2.1.1 3 1 _ _ rfl rfl e9) (by decide)), ku_n (fun e9 => absurd (hB.2.1.1 3 0 _ _ rfl rfl e9) (by decide))]; exact hfq2809)))
    have ew : κ2810 w = (1, 15, 0, 0) := by rw [hκ2810, ku_n (fun e9 => absurd (hB.2.1.1 0 3 _ _ rfl rfl e9) (by decide)), ku_n (fun e9 => absurd (hB.2.1.1 0 1 _ _ rfl rfl e9) (by decide)), ku_a]
    have hw : T2 κ2810 w 1 15 := ⟨by rw [ew], by rw [ew]⟩
    have eq2803 : κ2810 q2803 = (22, 16, 0, 0) := by rw [hκ2810, ku_n (fun e9 => absurd (hB.2.1.1 1 3 _ _ rfl rfl e9) (by decide)), ku_a]
    have hq2803 : T2 κ2810 q2803 22 16 := ⟨by rw [eq2803], by rw [eq2803]⟩
    have eq2809 : κ2810 q2809 = (21, 15, 0, 0) := by rw [hκ2810, ku_a]
    have hq2809 : T2 κ2810 q2809 21 15 := ⟨by rw [eq2809], by rw [eq2809]⟩
    have hx9 := hx2810
    have hT : WT B0 D cs T κ2810 _ := hT.closeN hB hx2810 (fun a9 h9 => by rw [hκ2810, ku_n (fun e9 => h9 (by rw [e9]; exact List.mem_of_getElem? (i := 0) rfl)), ku_n (fun e9 => h9 (by rw [e9]; exact List.mem_of_getElem? (i := 2) rfl)), ku_n (fun e9 => h9 (by rw [e9]; exact List.mem_of_getElem? (i := 1) rfl))]) ⟨⟨3, _, rfl, ok_21 hq2809.1 ⟨_, _, rfl, (by omega)⟩⟩, ⟨⟨0, _, rfl, ok_1 hw.1 ⟨_, _, rfl, hq2809, hq2803⟩⟩, ⟨⟨1, _, rfl, ok_22 hq2803.1 ⟨_, rfl⟩⟩, trivial⟩⟩⟩
    have hF : Fr B0 [] κ H0 _ := hF.closeN hB (fa_c (fun h9 => absurd hfq2809 h9) (fa_c (fun h9 => absurd hfw h9) (fa_c (fun h9 => absurd hfq2803 h9) fa_n)))
    have hL : OkL B0 _ := hB.2.2.2.2.2
    have hKF : KF κ κ2810 := hx2810.f
    have hKX : KX κ κ2810 := hx2810
    have hv := (hx2810.f.t2 hv (by decide))
    have hP : va_P D vwCl [(w, .inr (0, [.ref q2809, .ref q2803])), (q2803, .inl (cs 0, 16, .inl (fun _ => 0))), (v, .inl (cs 0, 600, .inl g2808)), (q2809, .inl (cs 0, 0, .inl gq2809))] _ := hB.1
    exact en_v hx hb hr hlocks hL (show 2 ≤ 2 by omega) (show ((0 + 16) + 600) ≤ 616 by omega) dX0_init_29 (⟨_, hKX, hT, hF, hw⟩)
theorem mX6_init_1 : (.methodLink RX6 1 objectInit : Cond) ∈ wsX6_init := List.mem_of_getElem? (i := 1) (by decide +kernel)
theorem mX6_init_2 : (.instanceMethod objectInit : Cond) ∈ wsX6_init := List.mem_of_getElem? (i := 2) (by decide +kernel)
theorem mX6_init_3 : (.code objectInit ⟨#[0xb1]⟩ 1 none : Cond) ∈ wsX6_init := List.mem_of_getElem? (i := 3) (by decide +kernel)
theorem mX6_init_4 : (.arrayClass .boolean : Cond) ∈ wsX6_init := List.mem_of_getElem? (i := 4) (by decide +kernel)
theorem mX6_init_5 : (.fieldLink RX6 9 "OneBeat$Setup" "isClockTold" "[Z" : Cond) ∈ wsX6_init := List.mem_of_getElem? (i := 5) (by decide +kernel)
theorem iX6_init_6 : ∀ w ∈ wsX60, w ∈ wsX6_init := fun w h => List.mem_of_mem_drop (List.mem_of_mem_take ((show wsX60 = (wsX6_init.drop 11).take 8 by decide +kernel) ▸ h))
theorem mX6_init_6 : (.arrayClass .int : Cond) ∈ wsX6_init := List.mem_of_getElem? (i := 6) (by decide +kernel)
theorem mX6_init_7 : (.fieldLink RX6 13 "OneBeat$Setup" "offset" "[I" : Cond) ∈ wsX6_init := List.mem_of_getElem? (i := 7) (by decide +kernel)
theorem mX6_init_8 : (.fieldLink RX6 17 "OneBeat$Setup" "drift" "[I" : Cond) ∈ wsX6_init := List.mem_of_getElem? (i := 8) (by decide +kernel)
theorem mX6_init_9 : (.fieldLink RX6 20 "OneBeat$Setup" "delay" "[I" : Cond) ∈ wsX6_init := List.mem_of_getElem? (i := 9) (by decide +kernel)
theorem mX6_init_10 : (.fieldLink RX6 23 "OneBeat$Setup" "players" "I" : Cond) ∈ wsX6_init := List.mem_of_getElem? (i := 10) (by decide +kernel)
set_option maxHeartbeats 4000000 in
set_option maxRecDepth 100000 in
theorem c_X6_init_de {l : Launch} {D : va_G} {cs : Nat → ClassId} {B0 T : Nat} {κ : KM} {H0 : Heap} (hT : WT B0 D cs T κ H0) {w : Nat} (hfw : (κ w).1 = 0) (hwb : B0 ≤ w) (hwa : va_at D vwCl (w, .inr (6, [.int 0, .int 0, .int 0, .null, .null, .null, .null, .null])) H0) {n : Nat} (hn : n ≤ 8) : KC l yX6_init wsX6_init 1 20 4 88 D cs B0 H0 [.ref w, .int (nI n)] (Qv (fun H => ∃ κ1, KX κ κ1 ∧ WT B0 D cs T κ1 H ∧ Fr B0 [] κ H0 H ∧ T2 κ1 w 7 11 ∧ κ1 w = (7, 11, 0, 0) ∧ ∃ ct of dr dl, SUX D cs w H n 0 0 .null ct of dr dl (fun _ => 0) (fun _ => 0) (fun _ => 0) (fun _ => 0))) := by
  refine KC.of cX6_init 2 none (by decide) rfl (Nat.le_of_ble_eq_true rfl) ?_
  intro p e s m below meth c ls hx hb hr hml hown hts hlocks hin hN hE hH0 hl
  have hown : s.vm.findClass RX6 = some m.cls := hown
  have hl : lv_has ls 2 [(0, .ref w), (1, .int (nI n))] := hl
  have hL : OkL B0 [] := OkL.nil
  have hF : Fr B0 [] κ H0 H0 := Fr.rf
  have hP : va_P D vwCl [(w, .inr (6, [.int 0, .int 0, .int 0, .null, .null, .null, .null, .null]))] _ := va_P.cons hwa va_P.nil
  have hb0 : B0 ≤ H0.size := Nat.le_trans hwb (Nat.le_of_lt hwa.lt)
  refine lv_aload_n hx hb dX6_init_0 rfl (lv_at hl 0 rfl) ?_
  refine W.objInit hx hb hown (hts _ mX6_init_1) (hts _ mX6_init_2) (hts _ mX6_init_3) rfl (by rw [hml]; exact hl.1) rfl dX6_init_1 (Nat.le_of_ble_eq_true rfl) (Nat.le_of_ble_eq_true rfl) ?_
  refine W.eq (g2 := F0 m 4 ls []) rfl ?_
  refine lv_aload_n hx hb dX6_init_4 rfl (lv_at hl 0 rfl) ?_
  refine lv_bipush (v := 8) hx hb dX6_init_5 (by decide) ?_
  have hB : Bx B0 D _ [(w, .inr (6, [.int 0, .int 0, .int 0, .null, .null, .null, .null, .null]))] [] _ _ := Bx.of (fun a => (κ a).1) hL hP (fa_c hwb fa_n) (by simp only [List.map_cons, List.map_nil, hfw]; decide)
  refine nw_a (atype := .boolean) (ty := .boolean) (N' := 8) (a0 := (8, .inl (fun _ => 0))) 2 hN rfl hx hb (hts _ mX6_init_4) rfl (fun _ => rfl) (nI_pos (n := 8) (by omega)) (nI_clamp (n := 8) (by omega)) (show 8 * _ ≤ _ by simp only [componentBytes]; omega) (show 0 + 1 ≤ 4 by omega) (show 0 + 8 ≤ 88 by omega) dX6_init_7 (fun q2811 H heq2811 hzq2811 hoq2811 hatq2811 => ?_)
  have hgeq2811 : _ ≤ q2811 := Nat.le_trans hB.2.2.1 (Nat.le_of_eq heq2811.symm)
  have hbq2811 : B0 ≤ q2811 := Nat.le_trans hb0 hgeq2811
  have hfq2811 : (κ q2811).1 = 0 := hT.fresh hgeq2811
  have hB := hB.nwm heq2811 hzq2811 hoq2811 hatq2811 hb0
  have hB : Bx B0 D _ [(w, .inr (6, [.int 0, .int 0, .int 0, .null, .null, .null, .null, .null])), (q2811, .inl (cs 2, 8, .inl (fun _ => 0)))] [q2811] _ _ := hB
  refine b_putF (D := D) (ci := 6) (v := .ref q2811) (ty := .array .boolean) (C := RX6) (T := TX6) (N := 8) hx hb hts iX6_init_6 tyX6 tyX6_ok nmX6 hown hN hB 0 rfl rfl 4 (by decide) (hts _ mX6_init_5) (fun _ h9 => h9) rfl hin rfl (by decide +kernel) rfl rfl (Nat.le_of_ble_eq_true rfl) (.inl rfl) dX6_init_9 (fun H locs hB => ?_)
  have hB : Bx B0 D _ [(w, .inr (6, [.int 0, .int 0, .int 0, .null, .ref q2811, .null, .null, .null])), (q2811, .inl (cs 2, 8, .inl (fun _ => 0)))] [w, q2811] _ _ := hB
  refine lv_aload_n hx hb dX6_init_12 rfl (lv_at hl 0 rfl) ?_
  refine lv_bipush (v := 8) hx hb dX6_init_13 (by decide) ?_
  refine nw_a (atype := .int) (ty := .int) (N' := 8) (a0 := (8, .inl (fun _ => 0))) 0 hN rfl hx hb (hts _ mX6_init_6) rfl (fun _ => rfl) (nI_pos (n := 8) (by omega)) (nI_clamp (n := 8) (by omega)) (show 8 * _ ≤ _ by simp only [componentBytes]; omega) (show 1 + 1 ≤ 4 by omega) (show (0 + 8) + 8 ≤ 88 by omega) dX6_init_15 (fun q2812 H heq2812 hzq2812 hoq2812 hatq2812 => ?_)
  have hgeq2812 : _ ≤ q2812 := Nat.le_trans hB.2.2.1 (Nat.le_of_eq heq2812.symm)
  have hbq2812 : B0 ≤ q2812 := Nat.le_trans hb0 hgeq2812
  have hfq2812 : (κ q2812).1 = 0 := hT.fresh hgeq2812
  have hB := hB.nwm heq2812 hzq2812 hoq2812 hatq2812 hb0
  have hB : Bx B0 D _ [(w, .inr (6, [.int 0, .int 0, .int 0, .null, .ref q2811, .null, .null, .null])), (q2811, .inl (cs 2, 8, .inl (fun _ => 0))), (q2812, .inl (cs 0, 8, .inl (fun _ => 0)))] [q2812, w, q2811] _ _ := hB
  refine b_putF (D := D) (ci := 6) (v := .ref q2812) (ty := .array .int) (C := RX6) (T := TX6) (N := 8) hx hb hts iX6_init_6 tyX6 tyX6_ok nmX6 hown hN hB 0 rfl rfl 5 (by decide) (hts _ mX6_init_7) (fun _ h9 => h9) rfl hin rfl (by decide +kernel) rfl rfl (Nat.le_of_ble_eq_true rfl) (.inr ⟨rfl, List.mem_of_getElem? (i := 1) rfl⟩) dX6_init_17 (fun H locs hB => ?_)
  have hB : Bx B0 D _ [(w, .inr (6, [.int 0, .int 0, .int 0, .null, .ref q2811, .ref q2812, .null, .null])), (q2811, .inl (cs 2, 8, .inl (fun _ => 0))), (q2812, .inl (cs 0, 8, .inl (fun _ => 0)))] [q2812, w, q2811] _ _ := hB
  refine lv_aload_n hx hb dX6_init_20 rfl (lv_at hl 0 rfl) ?_
  refine lv_bipush (v := 8) hx hb dX6_init_21 (by decide) ?_
  refine nw_a (atype := .int) (ty := .int) (N' := 8) (a0 := (8, .inl (fun _ => 0))) 0 hN rfl hx hb (hts _ mX6_init_6) rfl (fun _ => rfl) (nI_pos (n := 8) (by omega)) (nI_clamp (n := 8) (by omega)) (show 8 * _ ≤ _ by simp only [componentBytes]; omega) (show 2 + 1 ≤ 4 by omega) (show ((0 + 8) + 8) + 8 ≤ 88 by omega) dX6_init_23 (fun q2813 H heq2813 hzq2813 hoq2813 hatq2813 => ?_)
  have hgeq2813 : _ ≤ q2813 := Nat.le_trans hB.2.2.1 (Nat.le_of_eq heq2813.symm)
  have hbq2813 : B0 ≤ q2813 := Nat.le_trans hb0 hgeq2813
  have hfq2813 : (κ q2813).1 = 0 := hT.fresh hgeq2813
  have hB := hB.nwm heq2813 hzq2813 hoq2813 hatq2813 hb0
  have hB : Bx B0 D _ [(w, .inr (6, [.int 0, .int 0, .int 0, .null, .ref q2811, .ref q2812, .null, .null])), (q2811, .inl (cs 2, 8, .inl (fun _ => 0))), (q2812, .inl (cs 0, 8, .inl (fun _ => 0))), (q2813, .inl (cs 0, 8, .inl (fun _ => 0)))] [q2813, q2812, w, q2811] _ _ := hB
  refine b_putF (D := D) (ci := 6) (v := .ref q2813) (ty := .array .int) (C := RX6) (T := TX6) (N := 8) hx hb hts iX6_init_6 tyX6 tyX6_ok nmX6 hown hN hB 0 rfl rfl 6 (by decide) (hts _ mX6_init_8) (fun _ h9 => h9) rfl hin rfl (by decide +kernel) rfl rfl (Nat.le_of_ble_eq_true rfl) (.inr ⟨rfl, List.mem_of_getElem? (i := 2) rfl⟩) dX6_init_25 (fun H locs hB => ?_)
  have hB : Bx B0 D _ [(w, .inr (6, [.int 0, .int 0, .int 0, .null, .ref q2811, .ref q2812, .ref q2813, .null])), (q2811, .inl (cs 2, 8, .inl (fun _ => 0))), (q2812, .inl (cs 0, 8, .inl (fun _ => 0))), (q2813, .inl (cs 0, 8, .inl (fun _ => 0)))] [q2813, q2812, w, q2811] _ _ := hB
  refine lv_aload_n hx hb dX6_init_28 rfl (lv_at hl 0 rfl) ?_
  refine lv_bipush (v := 64) hx hb dX6_init_29 (by decide) ?_
  refine nw_a (atype := .int) (ty := .int) (N' := 64) (a0 := (64, .inl (fun _ => 0))) 0 hN rfl hx hb (hts _ mX6_init_6) rfl (fun _ => rfl) (nI_pos (n := 64) (by omega)) (nI_clamp (n := 64) (by omega)) (show 64 * _ ≤ _ by simp only [componentBytes]; omega) (show 3 + 1 ≤ 4 by omega) (show (((0 + 8) + 8) + 8) + 64 ≤ 88 by omega) dX6_init_31 (fun q2814 H heq2814 hzq2814 hoq2814 hatq2814 => ?_)
  have hgeq2814 : _ ≤ q2814 := Nat.le_trans hB.2.2.1 (Nat.le_of_eq heq2814.symm)
  have hbq2814 : B0 ≤ q2814 := Nat.le_trans hb0 hgeq2814
  have hfq2814 : (κ q2814).1 = 0 := hT.fresh hgeq2814
  have hB := hB.nwm heq2814 hzq2814 hoq2814 hatq2814 hb0
  have hB : Bx B0 D _ [(w, .inr (6, [.int 0, .int 0, .int 0, .null, .ref q2811, .ref q2812, .ref q2813, .null])), (q2811, .inl (cs 2, 8, .inl (fun _ => 0))), (q2812, .inl (cs 0, 8, .inl (fun _ => 0))), (q2813, .inl (cs 0, 8, .inl (fun _ => 0))), (q2814, .inl (cs 0, 64, .inl (fun _ => 0)))] [q2814, q2813, q2812, w, q2811] _ _ := hB
  refine b_putF (D := D) (ci := 6) (v := .ref q2814) (ty := .array .int) (C := RX6) (T := TX6) (N := 8) hx hb hts iX6_init_6 tyX6 tyX6_ok nmX6 hown hN hB 0 rfl rfl 7 (by decide) (hts _ mX6_init_9) (fun _ h9 => h9) rfl hin rfl (by decide +kernel) rfl rfl (Nat.le_of_ble_eq_true rfl) (.inr ⟨rfl, List.mem_of_getElem? (i := 3) rfl⟩) dX6_init_33 (fun H locs hB => ?_)
  have hB : Bx B0 D _ [(w, .inr (6, [.int 0, .int 0, .int 0, .null, .ref q2811, .ref q2812, .ref q2813, .ref q2814])), (q2811, .inl (cs 2, 8, .inl (fun _ => 0))), (q2812, .inl (cs 0, 8, .inl (fun _ => 0))), (q2813, .inl (cs 0, 8, .inl (fun _ => 0))), (q2814, .inl (cs 0, 64, .inl (fun _ => 0)))] [q2814, q2813, q2812, w, q2811] _ _ := hB
  refine lv_aload_n hx hb dX6_init_36 rfl (lv_at hl 0 rfl) ?_
  refine lv_iload_n hx hb dX6_init_37 rfl (lv_at hl 1 rfl) ?_
  refine b_putF (D := D) (ci := 6) (v := .int (nI n)) (ty := .int) (C := RX6) (T := TX6) (N := 8) hx hb hts iX6_init_6 tyX6 tyX6_ok nmX6 hown hN hB 0 rfl rfl 0 (by decide) (hts _ mX6_init_10) (fun _ h9 => h9) rfl hin rfl (by decide +kernel) rfl rfl (Nat.le_of_ble_eq_true rfl) (.inr ⟨rfl, List.mem_of_getElem? (i := 3) rfl⟩) dX6_init_38 (fun H locs hB => ?_)
  have hB : Bx B0 D _ [(w, .inr (6, [.int (nI n), .int 0, .int 0, .null, .ref q2811, .ref q2812, .ref q2813, .ref q2814])), (q2811, .inl (cs 2, 8, .inl (fun _ => 0))), (q2812, .inl (cs 0, 8, .inl (fun _ => 0))), (q2813, .inl (cs 0, 8, .inl (fun _ => 0))), (q2814, .inl (cs 0, 64, .inl (fun _ => 0)))] [q2814, q2813, q2812, w, q2811] _ _ := hB
  obtain ⟨κ2815, hκ2815⟩ : ∃ κq : KM, κq = (ku (ku (ku (ku (ku κ w (7, 11, 0, 0)) q2811 (18, 11, 0, 0)) q2812 (19, 11, 0, 0)) q2813 (19, 11, 0, 0)) q2814 (20, 11, 0, 0)) := ⟨_, rfl⟩
  have hx2815 : KX κ κ2815 := by rw [hκ2815]; exact (((((KX.ku hfw).tr (KX.ku (by rw [ku_n (fun e9 => absurd (hB.2.1.1 1 0 _ _ rfl rfl e9) (by decide))]; exact hfq2811))).tr (KX.ku (by rw [ku_n (fun e9 => absurd (hB.2.1.1 2 1 _ _ rfl rfl e9) (by decide)), ku_n (fun e9 => absurd (hB.2.1.1 2 0 _ _ rfl rfl e9) (by decide))]; exact hfq2812))).tr (KX.ku (by rw [ku_n (fun e9 => absurd (hB.2.1.1 3 2 _ _ rfl rfl e9) (by decide)), ku_n (fun e9 => absurd (hB.2.1.1 3 1 _ _ rfl rfl e9) (by decide)), ku_n (fun e9 => absurd (hB.2.1.1 3 0 _ _ rfl rfl e9) (by decide))]; exact hfq2813))).tr (KX.ku (by rw [ku_n (fun e9 => absurd (hB.2.1.1 4 3 _ _ rfl rfl e9) (by decide)), ku_n (fun e9 => absurd (hB.2.1.1 4 2 _ _ rfl rfl e9) (by decide)), ku_n (fun e9 => absurd (hB.2.1.1 4 1 _ _ rfl rfl e9) (by decide)), ku_n (fun e9 => absurd (hB.2.1.1 4 0 _ _ rfl rfl e9) (by decide))]; exact hfq2814)))
  have ew : κ2815 w = (7, 11, 0, 0) := by rw [hκ2815, ku_n (fun e9 => absurd (hB.2.1.1 0 4 _ _ rfl rfl e9) (by decide)), ku_n (fun e9 => absurd (hB.2.1.1 0 3 _ _ rfl rfl e9) (by decide)), ku_n (fun e9 => absurd (hB.2.1.1 0 2 _ _ rfl rfl e9) (by decide)), ku_n (fun e9 => absurd (hB.2.1.1 0 1 _ _ rfl rfl e9) (by decide)), ku_a]
  have hw : T2 κ2815 w 7 11 := ⟨by rw [ew], by rw [ew]⟩
  have eq2811 : κ2815 q2811 = (18, 11, 0, 0) := by rw [hκ2815, ku_n (fun e9 => absurd (hB.2.1.1 1 4 _ _ rfl rfl e9) (by decide)), ku_n (fun e9 => absurd (hB.2.1.1 1 3 _ _ rfl rfl e9) (by decide)), ku_n (fun e9 => absurd (hB.2.1.1 1 2 _ _ rfl rfl e9) (by decide)), ku_a]
  have hq2811 : T2 κ2815 q2811 18 11 := ⟨by rw [eq2811], by rw [eq2811]⟩
  have eq2812 : κ2815 q2812 = (19, 11, 0, 0) := by rw [hκ2815, ku_n (fun e9 => absurd (hB.2.1.1 2 4 _ _ rfl rfl e9) (by decide)), ku_n (fun e9 => absurd (hB.2.1.1 2 3 _ _ rfl rfl e9) (by decide)), ku_a]
  have hq2812 : T2 κ2815 q2812 19 11 := ⟨by rw [eq2812], by rw [eq2812]⟩
  have eq2813 : κ2815 q2813 = (19, 11, 0, 0) := by rw [hκ2815, ku_n (fun e9 => absurd (hB.2.1.1 3 4 _ _ rfl rfl e9) (by decide)), ku_a]
  have hq2813 : T2 κ2815 q2813 19 11 := ⟨by rw [eq2813], by rw [eq2813]⟩
  have eq2814 : κ2815 q2814 = (20, 11, 0, 0) := by rw [hκ2815, ku_a]
  have hq2814 : T2 κ2815 q2814 20 11 := ⟨by rw [eq2814], by rw [eq2814]⟩
  have hx9 := hx2815
  have hT : WT B0 D cs T κ2815 _ := hT.closeN hB hx2815 (fun a9 h9 => by rw [hκ2815, ku_n (fun e9 => h9 (by rw [e9]; exact List.mem_of_getElem? (i := 0) rfl)), ku_n (fun e9 => h9 (by rw [e9]; exact List.mem_of_getElem? (i := 1) rfl)), ku_n (fun e9 => h9 (by rw [e9]; exact List.mem_of_getElem? (i := 2) rfl)), ku_n (fun e9 => h9 (by rw [e9]; exact List.mem_of_getElem? (i := 4) rfl)), ku_n (fun e9 => h9 (by rw [e9]; exact List.mem_of_getElem? (i := 3) rfl))]) ⟨⟨4, _, rfl, ok_20 hq2814.1 ⟨_, rfl, (fun _ _ => ⟨0, Nat.zero_le _, rfl⟩)⟩⟩, ⟨⟨3, _, rfl, ok_19 hq2813.1 ⟨_, rfl⟩⟩, ⟨⟨2, _, rfl, ok_19 hq2812.1 ⟨_, rfl⟩⟩, ⟨⟨0, _, rfl, ok_7 hw.1 ⟨_, _, _, _, _, _, _, _, rfl, (by omega), (Or.inl rfl), (Or.inl (by rw [ew]; decide)), ⟨hq2811.1, by rw [ew]; exact hq2811.2⟩, ⟨hq2812.1, by rw [ew]; exact hq2812.2⟩, ⟨hq2813.1, by rw [ew]; exact hq2813.2⟩, ⟨hq2814.1, by rw [ew]; exact hq2814.2⟩⟩⟩, ⟨⟨1, _, rfl, ok_18 hq2811.1 ⟨_, rfl, (fun _ _ => Or.inl rfl)⟩⟩, trivial⟩⟩⟩⟩⟩
  have hF : Fr B0 [] κ H0 _ := hF.closeN hB (fa_c (fun h9 => absurd hfq2814 h9) (fa_c (fun h9 => absurd hfq2813 h9) (fa_c (fun h9 => absurd hfq2812 h9) (fa_c (fun h9 => absurd hfw h9) (fa_c (fun h9 => absurd hfq2811 h9) fa_n)))))
  have hL : OkL B0 _ := hB.2.2.2.2.2
  have hKF : KF κ κ2815 := hx2815.f
  have hKX : KX κ κ2815 := hx2815
  have hP : va_P D vwCl [(w, .inr (6, [.int (nI n), .int 0, .int 0, .null, .ref q2811, .ref q2812, .ref q2813, .ref q2814])), (q2811, .inl (cs 2, 8, .inl (fun _ => 0))), (q2812, .inl (cs 0, 8, .inl (fun _ => 0))), (q2813, .inl (cs 0, 8, .inl (fun _ => 0))), (q2814, .inl (cs 0, 64, .inl (fun _ => 0)))] _ := hB.1
  exact en_v hx hb hr hlocks hL (show 4 ≤ 4 by omega) (show ((((0 + 8) + 8) + 8) + 64) ≤ 88 by omega) dX6_init_41 (⟨_, hKX, hT, hF, hw, ew, q2811, q2812, q2813, q2814, hP 0 _ rfl, hP 1 _ rfl, hP 2 _ rfl, hP 3 _ rfl, hP 4 _ rfl, (fun e9 => absurd (hB.2.1.1 2 3 _ _ rfl rfl e9) (by decide))⟩)
set_option maxHeartbeats 4000000 in
set_option maxRecDepth 100000 in
theorem c_X6_fillIn_de {l : Launch} {D : va_G} {cs : Nat → ClassId} {B0 T : Nat} {κ : KM} {H0 : Heap} (hT : WT B0 D cs T κ H0) {sq ct of dr dl pl : Nat} {ne pa : Int32} {mg : Value} {tc fo fd fl : Nat → Int32} (hsu : T2 κ sq 7 11) (hpl : 1 ≤ pl ∧ pl ≤ 8) (hsx : SUX D cs sq H0 pl ne pa mg ct of dr dl tc fo fd fl) : KC l yX6_fillIn wsX6_fillIn 0 0 0 0 D cs B0 H0 [.ref sq] (Qv (fun H => WT B0 D cs T κ H ∧ Fr B0 [11] κ H0 H ∧ (SUX D cs sq H pl (fin ne (nI pl)) (fin pa 50) mg ct of dr dl tc fo fd fl))) := by
  refine KC.of cX6_fillIn 1 none (by decide) rfl (Nat.le_of_ble_eq_true rfl) ?_
  intro p e s m below meth c ls hx hb hr hml hown hts hlocks hin hN hE hH0 hl
  have hown : s.vm.findClass RX6 = some m.cls := hown
  have hl : lv_has ls 1 [(0, .ref sq)] := hl
  have hL : OkL B0 [] := OkL.nil
  have hF : Fr B0 [11] κ H0 H0 := Fr.rf
  obtain ⟨hct, hof, hdr, hdl⟩ := SUX.t2 hT hsu hsx.1
  obtain ⟨hksq, hkct, hkof, hkdr, hkdl, hod⟩ := hsx
  have hq18 := f18 hT hct hkct
  have hq20 := f20 hT hdl hkdl
  refine lv_aload_n hx hb dX6_fillIn_0 rfl (lv_at hl 0 rfl) ?_
  obtain ⟨hb2816, e2816, hat2816, hk2816⟩ := hT.o7 hsu.1
  obtain ⟨f2816_0, f2816_1, f2816_2, f2816_3, f2816_4, f2816_5, f2816_6, f2816_7, rfl, c2816_0, c2816_3, c2816_mg, t2816_4, t2816_5, t2816_6, t2816_7⟩ := hk2816
  rw [hsu.2] at t2816_4
  rw [hsu.2] at t2816_5
  rw [hsu.2] at t2816_6
  rw [hsu.2] at t2816_7
  obtain ⟨rfl, rfl, rfl, rfl, rfl, rfl, rfl, rfl⟩ := eq7 hat2816 hksq (by omega)
  have hP : va_P D vwCl [(sq, .inr (6, [.int (nI pl), .int ne, .int pa, mg, .ref ct, .ref of, .ref dr, .ref dl]))] _ := va_P.cons hat2816 va_P.nil
  refine va_get (D := D) (ci := 6) (v := .int ne) (C := RX6) (T := TX6) (N := 8) hx hb hts iX6_fillIn_6 hown hN.1 hP 0 rfl rfl 1 (by decide) (hts _ mX6_fillIn_1) (fun _ h9 => h9) rfl dX6_fillIn_1 ?_
  refine lv_if_ne (tgt := 15) hx hb dX6_fillIn_4 (by decide) (fun c2817 => ?_) (fun c2817 => ?_)
  · refine lv_aload_n hx hb dX6_fillIn_15 rfl (lv_at hl 0 rfl) ?_
    refine va_get (D := D) (ci := 6) (v := .int pa) (C := RX6) (T := TX6) (N := 8) hx hb hts iX6_fillIn_6 hown hN.1 hP 0 rfl rfl 2 (by decide) (hts _ mX6_fillIn_3) (fun _ h9 => h9) rfl dX6_fillIn_16 ?_
    refine lv_if_ne (tgt := 28) hx hb dX6_fillIn_19 (by decide) (fun c2818 => ?_) (fun c2818 => ?_)
    · exact en_v hx hb hr hlocks hL (Nat.zero_le _) (Nat.zero_le _) dX6_fillIn_28 (⟨hT, hF, by rw [fin_n c2817, fin_n c2818]; exact ⟨hksq, hkct, hkof, hkdr, hkdl, hod⟩⟩)
    · refine lv_aload_n hx hb dX6_fillIn_22 rfl (lv_at hl 0 rfl) ?_
      refine lv_bipush (v := 50) hx hb dX6_fillIn_23 (by decide) ?_
      have hB : Bx B0 D _ [(sq, .inr (6, [.int (nI pl), .int ne, .int pa, mg, .ref ct, .ref of, .ref dr, .ref dl]))] [] _ _ := Bx.of (fun a => (κ a).1) hL hP (fa_c hb2816 fa_n) (by simp only [List.map_cons, List.map_nil, hsu.1]; decide)
      refine b_put (D := D) (ci := 6) (v := .int 50) (ty := .int) (C := RX6) (T := TX6) (N := 8) hx hb hts iX6_fillIn_6 tyX6 tyX6_ok nmX6 hown hN hB 0 rfl rfl 2 (by decide) (hts _ mX6_fillIn_3) (fun _ h9 => h9) rfl (by decide +kernel) rfl rfl (Nat.le_of_ble_eq_true rfl) (.inl rfl) dX6_fillIn_25 (fun H locs hB => ?_)
      have hB : Bx B0 D _ [(sq, .inr (6, [.int (nI pl), .int ne, .int 50, mg, .ref ct, .ref of, .ref dr, .ref dl]))] [sq] _ _ := hB
      have hT : WT B0 D cs T κ _ := hT.close hB ⟨⟨0, _, rfl, ok_7 hsu.1 ⟨_, _, _, _, _, _, _, _, rfl, (by omega), c2816_3, c2816_mg, ⟨t2816_4.1, by rw [hsu.2]; exact t2816_4.2⟩, ⟨t2816_5.1, by rw [hsu.2]; exact t2816_5.2⟩, ⟨t2816_6.1, by rw [hsu.2]; exact t2816_6.2⟩, ⟨t2816_7.1, by rw [hsu.2]; exact t2816_7.2⟩⟩⟩, trivial⟩
      have hF : Fr B0 [11] κ H0 _ := hF.close hB (fa_c (by simp [hsu.2]) fa_n)
      have hL : OkL B0 _ := hB.2.2.2.2.2
      have hP : va_P D vwCl [(sq, .inr (6, [.int (nI pl), .int ne, .int 50, mg, .ref ct, .ref of, .ref dr, .ref dl]))] _ := hB.1
      have hksq : va_at D vwCl (sq, .inr (6, [.int (nI pl), .int ne, .int 50, mg, .ref ct, .ref of, .ref dr, .ref dl])) _ := hP 0 _ rfl
      have hkct := hkct.kept (hB.2.2.2.1 _ hkct.lt (by simp only [List.mem_cons, List.not_mem_nil, or_false, not_or]; exact ne_c hct.1 hsu.1 (by decide)))
      have hkof := hkof.kept (hB.2.2.2.1 _ hkof.lt (by simp only [List.mem_cons, List.not_mem_nil, or_false, not_or]; exact ne_c hof.1 hsu.1 (by decide)))
      have hkdr := hkdr.kept (hB.2.2.2.1 _ hkdr.lt (by simp only [List.mem_cons, List.not_mem_nil, or_false, not_or]; exact ne_c hdr.1 hsu.1 (by decide)))
      have hkdl := hkdl.kept (hB.2.2.2.1 _ hkdl.lt (by simp only [List.mem_cons, List.not_mem_nil, or_false, not_or]; exact ne_c hdl.1 hsu.1 (by decide)))
      exact en_v hx hb hr hlocks hL (Nat.zero_le _) (Nat.zero_le _) dX6_fillIn_28 (⟨hT, hF, by rw [fin_n c2817, fin_0 c2818]; exact ⟨hksq, hkct, hkof, hkdr, hkdl, hod⟩⟩)
  · refine lv_aload_n hx hb dX6_fillIn_7 rfl (lv_at hl 0 rfl) ?_
    refine lv_aload_n hx hb dX6_fillIn_8 rfl (lv_at hl 0 rfl) ?_
    refine va_get (D := D) (ci := 6) (v := .int (nI pl)) (C := RX6) (T := TX6) (N := 8) hx hb hts iX6_fillIn_6 hown hN.1 hP 0 rfl rfl 0 (by decide) (hts _ mX6_fillIn_2) (fun _ h9 => h9) rfl dX6_fillIn_9 ?_
    have hB : Bx B0 D _ [(sq, .inr (6, [.int (nI pl), .int ne, .int pa, mg, .ref ct, .ref of, .ref dr, .ref dl]))] [] _ _ := Bx.of (fun a => (κ a).1) hL hP (fa_c hb2816 fa_n) (by simp only [List.map_cons, List.map_nil, hsu.1]; decide)
    refine b_put (D := D) (ci := 6) (v := .int (nI pl)) (ty := .int) (C := RX6) (T := TX6) (N := 8) hx hb hts iX6_fillIn_6 tyX6 tyX6_ok nmX6 hown hN hB 0 rfl rfl 1 (by decide) (hts _ mX6_fillIn_1) (fun _ h9 => h9) rfl (by decide +kernel) rfl rfl (Nat.le_of_ble_eq_true rfl) (.inl rfl) dX6_fillIn_12 (fun H locs hB => ?_)
    have hB : Bx B0 D _ [(sq, .inr (6, [.int (nI pl), .int (nI pl), .int pa, mg, .ref ct, .ref of, .ref dr, .ref dl]))] [sq] _ _ := hB
    refine lv_aload_n hx hb dX6_fillIn_15 rfl (lv_at hl 0 rfl) ?_
    refine va_get (D := D) (ci := 6) (v := .int pa) (C := RX6) (T := TX6) (N := 8) hx hb hts iX6_fillIn_6 hown hN.1 hB.1 0 rfl rfl 2 (by decide) (hts _ mX6_fillIn_3) (fun _ h9 => h9) rfl dX6_fillIn_16 ?_
    refine lv_if_ne (tgt := 28) hx hb dX6_fillIn_19 (by decide) (fun c2819 => ?_) (fun c2819 => ?_)
    · have hT : WT B0 D cs T κ _ := hT.close hB ⟨⟨0, _, rfl, ok_7 hsu.1 ⟨_, _, _, _, _, _, _, _, rfl, (by omega), c2816_3, c2816_mg, ⟨t2816_4.1, by rw [hsu.2]; exact t2816_4.2⟩, ⟨t2816_5.1, by rw [hsu.2]; exact t2816_5.2⟩, ⟨t2816_6.1, by rw [hsu.2]; exact t2816_6.2⟩, ⟨t2816_7.1, by rw [hsu.2]; exact t2816_7.2⟩⟩⟩, trivial⟩
      have hF : Fr B0 [11] κ H0 _ := hF.close hB (fa_c (by simp [hsu.2]) fa_n)
      have hL : OkL B0 _ := hB.2.2.2.2.2
      have hP : va_P D vwCl [(sq, .inr (6, [.int (nI pl), .int (nI pl), .int pa, mg, .ref ct, .ref of, .ref dr, .ref dl]))] _ := hB.1
      have hksq : va_at D vwCl (sq, .inr (6, [.int (nI pl), .int (nI pl), .int pa, mg, .ref ct, .ref of, .ref dr, .ref dl])) _ := hP 0 _ rfl
      have hkct := hkct.kept (hB.2.2.2.1 _ hkct.lt (by simp only [List.mem_cons, List.not_mem_nil, or_false, not_or]; exact ne_c hct.1 hsu.1 (by decide)))
      have hkof := hkof.kept (hB.2.2.2.1 _ hkof.lt (by simp only [List.mem_cons, List.not_mem_nil, or_false, not_or]; exact ne_c hof.1 hsu.1 (by decide)))
      have hkdr := hkdr.kept (hB.2.2.2.1 _ hkdr.lt (by simp only [List.mem_cons, List.not_mem_nil, or_false, not_or]; exact ne_c hdr.1 hsu.1 (by decide)))
      have hkdl := hkdl.kept (hB.2.2.2.1 _ hkdl.lt (by simp only [List.mem_cons, List.not_mem_nil, or_false, not_or]; exact ne_c hdl.1 hsu.1 (by decide)))
      exact en_v hx hb hr hlocks hL (Nat.zero_le _) (Nat.zero_le _) dX6_fillIn_28 (⟨hT, hF, by rw [fin_0 c2817, fin_n c2819]; exact ⟨hksq, hkct, hkof, hkdr, hkdl, hod⟩⟩)
    · refine lv_aload_n hx hb dX6_fillIn_22 rfl (lv_at hl 0 rfl) ?_
      refine lv_bipush (v := 50) hx hb dX6_fillIn_23 (by decide) ?_
      refine b_put (D := D) (ci := 6) (v := .int 50) (ty := .int) (C := RX6) (T := TX6) (N := 8) hx hb hts iX6_fillIn_6 tyX6 tyX6_ok nmX6 hown hN hB 0 rfl rfl 2 (by decide) (hts _ mX6_fillIn_3) (fun _ h9 => h9) rfl (by decide +kernel) rfl rfl (Nat.le_of_ble_eq_true rfl) (.inr ⟨rfl, List.mem_of_getElem? (i := 0) rfl⟩) dX6_fillIn_25 (fun H locs hB => ?_)
      have hB : Bx B0 D _ [(sq, .inr (6, [.int (nI pl), .int (nI pl), .int 50, mg, .ref ct, .ref of, .ref dr, .ref dl]))] [sq] _ _ := hB
      have hT : WT B0 D cs T κ _ := hT.close hB ⟨⟨0, _, rfl, ok_7 hsu.1 ⟨_, _, _, _, _, _, _, _, rfl, (by omega), c2816_3, c2816_mg, ⟨t2816_4.1, by rw [hsu.2]; exact t2816_4.2⟩, ⟨t2816_5.1, by rw [hsu.2]; exact t2816_5.2⟩, ⟨t2816_6.1, by rw [hsu.2]; exact t2816_6.2⟩, ⟨t2816_7.1, by rw [hsu.2]; exact t2816_7.2⟩⟩⟩, trivial⟩
      have hF : Fr B0 [11] κ H0 _ := hF.close hB (fa_c (by simp [hsu.2]) fa_n)
      have hL : OkL B0 _ := hB.2.2.2.2.2
      have hP : va_P D vwCl [(sq, .inr (6, [.int (nI pl), .int (nI pl), .int 50, mg, .ref ct, .ref of, .ref dr, .ref dl]))] _ := hB.1
      have hksq : va_at D vwCl (sq, .inr (6, [.int (nI pl), .int (nI pl), .int 50, mg, .ref ct, .ref of, .ref dr, .ref dl])) _ := hP 0 _ rfl
      have hkct := hkct.kept (hB.2.2.2.1 _ hkct.lt (by simp only [List.mem_cons, List.not_mem_nil, or_false, not_or]; exact ne_c hct.1 hsu.1 (by decide)))
      have hkof := hkof.kept (hB.2.2.2.1 _ hkof.lt (by simp only [List.mem_cons, List.not_mem_nil, or_false, not_or]; exact ne_c hof.1 hsu.1 (by decide)))
      have hkdr := hkdr.kept (hB.2.2.2.1 _ hkdr.lt (by simp only [List.mem_cons, List.not_mem_nil, or_false, not_or]; exact ne_c hdr.1 hsu.1 (by decide)))
      have hkdl := hkdl.kept (hB.2.2.2.1 _ hkdl.lt (by simp only [List.mem_cons, List.not_mem_nil, or_false, not_or]; exact ne_c hdl.1 hsu.1 (by decide)))
      exact en_v hx hb hr hlocks hL (Nat.zero_le _) (Nat.zero_le _) dX6_fillIn_28 (⟨hT, hF, by rw [fin_0 c2817, fin_0 c2819]; exact ⟨hksq, hkct, hkof, hkdr, hkdl, hod⟩⟩)
theorem hdX5_readClock_v : yX5_readClock.cls = RX5 ∧ yX5_readClock.cls ≠ "java/lang/invoke/MethodHandle" ∧ yX5_readClock.cls ≠ "java/lang/invoke/VarHandle" ∧ (parseMethodDescriptor yX5_readClock.desc).map (fun d => d.parameters.length) = some 0 := by decide +kernel
theorem hdX5_readLink_v : yX5_readLink.cls = RX5 ∧ yX5_readLink.cls ≠ "java/lang/invoke/MethodHandle" ∧ yX5_readLink.cls ≠ "java/lang/invoke/VarHandle" ∧ (parseMethodDescriptor yX5_readLink.desc).map (fun d => d.parameters.length) = some 0 := by decide +kernel
theorem mX5_readStatement_1 : (.fieldLink RX5 65 "OneBeat$Reader" "setup" "LOneBeat$Setup;" : Cond) ∈ wsX5_readStatement := List.mem_of_getElem? (i := 1) (by decide +kernel)
theorem iX5_readStatement_5 : ∀ w ∈ wsX50, w ∈ wsX5_readStatement := fun w h => List.mem_of_mem_drop (List.mem_of_mem_take ((show wsX50 = (wsX5_readStatement.drop 183).take 14 by decide +kernel) ▸ h))
theorem iX5_readStatement_6 : ∀ w ∈ wsX60, w ∈ wsX5_readStatement := fun w h => List.mem_of_mem_drop (List.mem_of_mem_take ((show wsX60 = (wsX5_readStatement.drop 197).take 8 by decide +kernel) ▸ h))
theorem iX5_readStatement_0 : ∀ w ∈ wsX00, w ∈ wsX5_readStatement := fun w h => List.mem_of_mem_drop (List.mem_of_mem_take ((show wsX00 = (wsX5_readStatement.drop 205).take 2 by decide +kernel) ▸ h))
theorem mX5_readStatement_2 : (.classLink RX5 119 RX0 : Cond) ∈ wsX5_readStatement := List.mem_of_getElem? (i := 2) (by decide +kernel)
theorem mX5_readStatement_3 : (.instantiable RX0 2 : Cond) ∈ wsX5_readStatement := List.mem_of_getElem? (i := 3) (by decide +kernel)
theorem mX5_readStatement_4 : (.initialized RX0 : Cond) ∈ wsX5_readStatement := List.mem_of_getElem? (i := 4) (by decide +kernel)
theorem dfl0 : ∀ j, j < 2 → defaultValue (tyX0 j) = vp_V [.null, .null] j := by decide +kernel
theorem mX5_readStatement_5 : (.fieldLink RX5 15 "OneBeat$Reader" "codes" "[I" : Cond) ∈ wsX5_readStatement := List.mem_of_getElem? (i := 5) (by decide +kernel)
theorem mX5_readStatement_6 : (.fieldLink RX5 38 "OneBeat$Reader" "codeCount" "I" : Cond) ∈ wsX5_readStatement := List.mem_of_getElem? (i := 6) (by decide +kernel)
theorem mX5_readStatement_157 : (.instanceMethod yX0_init : Cond) ∈ wsX5_readStatement := List.mem_of_getElem? (i := 157) (by decide +kernel)
theorem mX5_readStatement_156 : (.methodLink RX5 121 yX0_init : Cond) ∈ wsX5_readStatement := List.mem_of_getElem? (i := 156) (by decide +kernel)
theorem hdX0_init_o : yX0_init.cls ≠ "java/lang/invoke/MethodHandle" ∧ yX0_init.cls ≠ "java/lang/invoke/VarHandle" ∧ (parseMethodDescriptor yX0_init.desc).map (fun d => d.parameters.length) = some 2 := by decide +kernel
theorem mX5_readStatement_7 : (.fieldLink RX5 124 "OneBeat$Reader" "start" "I" : Cond) ∈ wsX5_readStatement := List.mem_of_getElem? (i := 7) (by decide +kernel)
theorem hdX5_readPatience_v : yX5_readPatience.cls = RX5 ∧ yX5_readPatience.cls ≠ "java/lang/invoke/MethodHandle" ∧ yX5_readPatience.cls ≠ "java/lang/invoke/VarHandle" ∧ (parseMethodDescriptor yX5_readPatience.desc).map (fun d => d.parameters.length) = some 0 := by decide +kernel
theorem hdX5_readNeed_v : yX5_readNeed.cls = RX5 ∧ yX5_readNeed.cls ≠ "java/lang/invoke/MethodHandle" ∧ yX5_readNeed.cls ≠ "java/lang/invoke/VarHandle" ∧ (parseMethodDescriptor yX5_readNeed.desc).map (fun d => d.parameters.length) = some 0 := by decide +kernel
set_option maxHeartbeats 4000000 in
set_option maxRecDepth 100000 in
theorem c_X5_readStatement_de {l : Launch} {D : va_G} {cs : Nat → ClassId} {B0 T : Nat} {κ : KM} {H0 : Heap} (hT : WT B0 D cs T κ H0) {w : Nat} (hw : T2 κ w 6 10) (hs0 : ¬ (κ w).2.2.2 = 0) {tx co tn cc : Nat} {f cf B : Nat → Int32} {ta tk ec es : Int32} (hY : BY B tn) (hf : TXB f B tn) (hcc : cc ≤ 600) {ct of dr dl pl : Nat} {ne pa : Int32} {mg : Value} {tc fo fd fl : Nat → Int32} (hsu : T2 κ (κ w).2.2.2 7 11) (hpl : 1 ≤ pl ∧ pl ≤ 8) (hsx : SUX D cs (κ w).2.2.2 H0 pl ne pa mg ct of dr dl tc fo fd fl) {om : Option (List Int32)} (hom : (om = none ∧ mg = .null ∧ cc = 0) ∨ (om ≠ none ∧ ∃ a, mg = .ref a)) {z : Nat} (hz : z ≤ tn) (hcz : cc ≤ z) (hrs : RS D cs w H0 tx f co cf (κ w).2.2.1 tn (tkE B z) (tkK B z) z (tkV B z) ta tk cc (.ref (κ w).2.2.2) ec es) : KC l yX5_readStatement wsX5_readStatement 21 467 3 618 D cs B0 H0 [.ref w] (Qi (fun r H => ∃ κ1, (∀ a, (κ a).1 ≠ 0 → a ≠ (κ w).2.2.2 → κ1 a = κ a) ∧ WT B0 D cs T κ1 H ∧ Fr B0 [10, 11] κ H0 H ∧ T2 κ1 (κ w).2.2.2 7 11 ∧ (((κ1 (κ w).2.2.2).2.2.1 = (κ (κ w).2.2.2).2.2.1 ∧ Gr H0 H 0 0) ∨ ((κ (κ w).2.2.2).2.2.1 ≠ 1 ∧ (κ1 (κ w).2.2.2).2.2.1 = 1 ∧ Gr H0 H 3 618)) ∧ ((r = 1 ∧ ∃ ne1 pa1 mg1 om1 tc1 fo1 fd1 fl1 q1 cf1 cc1 ta1 tk1, stmB B pl z (ne, pa, om, tc, fo, fd, fl) = .inr ((ne1, pa1, om1, tc1, fo1, fd1, fl1), q1) ∧ z < q1 ∧ q1 ≤ tn ∧ cc1 ≤ q1 ∧ ((om1 = none ∧ mg1 = .null ∧ cc1 = 0) ∨ (om1 ≠ none ∧ ∃ a, mg1 = .ref a)) ∧ RS D cs w H tx f co cf1 (κ w).2.2.1 tn (tkE B q1) (tkK B q1) q1 (tkV B q1) ta1 tk1 cc1 (.ref (κ w).2.2.2) ec es ∧ SUX D cs (κ w).2.2.2 H pl ne1 pa1 mg1 ct of dr dl tc1 fo1 fd1 fl1) ∨ (r = 0 ∧ ∃ c9 o9, stmB B pl z (ne, pa, om, tc, fo, fd, fl) = .inl (c9, o9) ∧ RE D cs w H tx f co (κ w).2.2.1 tn (.ref (κ w).2.2.2) c9 (nI o9))))) := by
  refine KC.of cX5_readStatement 1 (some .boolean) (by decide) rfl (Nat.le_of_ble_eq_true rfl) ?_
  intro p e s m below meth c ls hx hb hr hml hown hts hlocks hin hN hE hH0 hl
  have hown : s.vm.findClass RX5 = some m.cls := hown
  have hl : lv_has ls 1 [(0, .ref w)] := hl
  have hL : OkL B0 [] := OkL.nil
  have hF : Fr B0 [10, 11] κ H0 H0 := Fr.rf
  obtain ⟨hkw, hktx, hkco⟩ := hrs
  have h6n := hY.1
  obtain ⟨htx, hco⟩ : T2 κ tx 16 10 ∧ T2 κ co 17 10 := RS.t2 hT hw hkw
  have hzE := tkE_le hY (s := z) (by omega)
  obtain ⟨hct, hof, hdr, hdl⟩ := SUX.t2 hT hsu hsx.1
  obtain ⟨hksq, hkct, hkof, hkdr, hkdl, hod⟩ := hsx
  have hq18 := f18 hT hct hkct
  have hq20 := f20 hT hdl hkdl
  refine lv_aload_n hx hb dX5_readStatement_0 rfl (lv_at hl 0 rfl) ?_
  refine va_ldcS hx hb hown (hN.s 2 rfl) dX5_readStatement_1 ?_
  refine cv_i (As := [.ref (cs 102)]) (rest := []) (b := w) ⟨hx, hb, hml, hown, hts⟩ (c_X5_isWord hT (w := w) hw (i := 2) (by decide) (by first | omega | decide | assumption) (by first | omega | decide | assumption) (by first | omega | decide | assumption) (by first | omega | decide | assumption) ⟨hkw, hktx, hkco⟩) (cwV 1 hts gX5_readStatement_X5_isWord rfl rfl rfl hdX5_isWord_v ⟨Nat.le_of_ble_eq_true rfl, Nat.le_of_ble_eq_true rfl⟩) hN hE hL (rcv6 hN hT hw.1) rfl rfl hl.1 (Nat.le_of_ble_eq_true rfl) dX5_readStatement_3 (Nat.zero_le _) (Nat.zero_le _) (fun r2820 H1 locs hL hqr2820 => ?_)
  obtain ⟨h9, hqr2820⟩ := hqr2820; replace h9 := h9.symm; subst h9
  rcases hqr2820 with ⟨rfl, e2821⟩ | ⟨rfl, e2822⟩
  · have htw := tkE_w hY (i := 2) (by decide) e2821
    have hwl := isW_lt hY (i := 2) (by decide) e2821
    rw [← htw] at hwl
    refine lv_if_eq (tgt := 14) hx hb dX5_readStatement_6 (by decide) (fun c9 => absurd c9 (by decide)) (fun _ => ?_)
    refine lv_aload_n hx hb dX5_readStatement_9 rfl (lv_at hl 0 rfl) ?_
    refine cv_i (As := []) (rest := []) (b := w) ⟨hx, hb, hml, hown, hts⟩ (c_X5_readClock hT (w := w) hw (by first | omega | decide | assumption) (by first | omega | decide | assumption) (by first | omega | decide | assumption) (by first | omega | decide | assumption) (by first | omega | decide | assumption) ⟨hksq, hkct, hkof, hkdr, hkdl, hod⟩ (by first | omega | decide | assumption) ⟨hkw, hktx, hkco⟩) (cwV 0 hts gX5_readStatement_X5_readClock rfl rfl rfl hdX5_readClock_v ⟨Nat.le_of_ble_eq_true rfl, Nat.le_of_ble_eq_true rfl⟩) hN hE hL (rcv6 hN hT hw.1) rfl rfl hl.1 (Nat.le_of_ble_eq_true rfl) dX5_readStatement_10 (Nat.zero_le _) (Nat.zero_le _) (fun r2823 H1 locs hL hqr2823 => ?_)
    obtain ⟨hT1, hF1, hqr2823⟩ := hqr2823
    have hF := hF.tr (hF1.mono (by simp))
    have hT := hT1
    rcases hqr2823 with ⟨rfl, tc2824, fo2825, fd2826, q2827, t2828, k2829, e2830, u2831, v2832, m2833, x2834⟩ | ⟨rfl, c2835, o2836, e2837, x2838⟩
    · obtain ⟨hkw, hktx, hkco⟩ := m2833
      have hzE := tkE_le hY (s := q2827) (by omega)
      obtain ⟨hksq, hkct, hkof, hkdr, hkdl, hod⟩ := x2834
      have hq18 := f18 hT hct hkct
      have hq20 := f20 hT hdl hkdl
      refine W.know (fun hg => ?_)
      rw [hH0] at hg
      exact en_i hx hb hr hlocks hL rfl (Nat.zero_le _) (Nat.zero_le _) dX5_readStatement_13 (⟨_, (fun _ _ _ => rfl), hT, hF, hsu, Or.inl ⟨rfl, hg⟩, Or.inl ⟨rfl, _, _, _, _, _, _, _, _, _, _, _, _, _, (stm_c_o e2821 (by rw [← htw]; exact e2830)), (by omega), (by omega), (by omega), hom, ⟨hkw, hktx, hkco⟩, ⟨hksq, hkct, hkof, hkdr, hkdl, hod⟩⟩⟩)
    · refine W.know (fun hg => ?_)
      rw [hH0] at hg
      exact en_i hx hb hr hlocks hL rfl (Nat.zero_le _) (Nat.zero_le _) dX5_readStatement_13 (⟨_, (fun _ _ _ => rfl), hT, hF, hsu, Or.inl ⟨rfl, hg⟩, Or.inr ⟨rfl, _, _, (stm_c_e e2821 (by rw [← htw]; exact e2837)), x2838⟩⟩)
  · refine lv_if_eq (tgt := 14) hx hb dX5_readStatement_6 (by decide) (fun _ => ?_) (fun c9 => absurd (by decide) c9)
    refine lv_aload_n hx hb dX5_readStatement_14 rfl (lv_at hl 0 rfl) ?_
    refine va_ldcS hx hb hown (hN.s 3 rfl) dX5_readStatement_15 ?_
    refine cv_i (As := [.ref (cs 103)]) (rest := []) (b := w) ⟨hx, hb, hml, hown, hts⟩ (c_X5_isWord hT (w := w) hw (i := 3) (by decide) (by first | omega | decide | assumption) (by first | omega | decide | assumption) (by first | omega | decide | assumption) (by first | omega | decide | assumption) ⟨hkw, hktx, hkco⟩) (cwV 1 hts gX5_readStatement_X5_isWord rfl rfl rfl hdX5_isWord_v ⟨Nat.le_of_ble_eq_true rfl, Nat.le_of_ble_eq_true rfl⟩) hN hE hL (rcv6 hN hT hw.1) rfl rfl hl.1 (Nat.le_of_ble_eq_true rfl) dX5_readStatement_17 (Nat.zero_le _) (Nat.zero_le _) (fun r2839 H1 locs hL hqr2839 => ?_)
    obtain ⟨h9, hqr2839⟩ := hqr2839; replace h9 := h9.symm; subst h9
    rcases hqr2839 with ⟨rfl, e2840⟩ | ⟨rfl, e2841⟩
    · have htw := tkE_w hY (i := 3) (by decide) e2840
      have hwl := isW_lt hY (i := 3) (by decide) e2840
      rw [← htw] at hwl
      refine lv_if_eq (tgt := 28) hx hb dX5_readStatement_20 (by decide) (fun c9 => absurd c9 (by decide)) (fun _ => ?_)
      refine lv_aload_n hx hb dX5_readStatement_23 rfl (lv_at hl 0 rfl) ?_
      refine cv_i (As := []) (rest := []) (b := w) ⟨hx, hb, hml, hown, hts⟩ (c_X5_readLink hT (w := w) hw (by first | omega | decide | assumption) (by first | omega | decide | assumption) (by first | omega | decide | assumption) (by first | omega | decide | assumption) (by first | omega | decide | assumption) ⟨hksq, hkct, hkof, hkdr, hkdl, hod⟩ (by first | omega | decide | assumption) ⟨hkw, hktx, hkco⟩) (cwV 0 hts gX5_readStatement_X5_readLink rfl rfl rfl hdX5_readLink_v ⟨Nat.le_of_ble_eq_true rfl, Nat.le_of_ble_eq_true rfl⟩) hN hE hL (rcv6 hN hT hw.1) rfl rfl hl.1 (Nat.le_of_ble_eq_true rfl) dX5_readStatement_24 (Nat.zero_le _) (Nat.zero_le _) (fun r2842 H1 locs hL hqr2842 => ?_)
      obtain ⟨hT1, hF1, hqr2842⟩ := hqr2842
      have hF := hF.tr (hF1.mono (by simp))
      have hT := hT1
      rcases hqr2842 with ⟨rfl, fl2843, q2844, t2845, k2846, e2847, u2848, v2849, m2850, x2851⟩ | ⟨rfl, c2852, o2853, e2854, x2855⟩
      · obtain ⟨hkw, hktx, hkco⟩ := m2850
        have hzE := tkE_le hY (s := q2844) (by omega)
        obtain ⟨hksq, hkct, hkof, hkdr, hkdl, hod⟩ := x2851
        have hq18 := f18 hT hct hkct
        have hq20 := f20 hT hdl hkdl
        refine W.know (fun hg => ?_)
        rw [hH0] at hg
        exact en_i hx hb hr hlocks hL rfl (Nat.zero_le _) (Nat.zero_le _) dX5_readStatement_27 (⟨_, (fun _ _ _ => rfl), hT, hF, hsu, Or.inl ⟨rfl, hg⟩, Or.inl ⟨rfl, _, _, _, _, _, _, _, _, _, _, _, _, _, (stm_l_o e2822 e2840 (by rw [← htw]; exact e2847)), (by omega), (by omega), (by omega), hom, ⟨hkw, hktx, hkco⟩, ⟨hksq, hkct, hkof, hkdr, hkdl, hod⟩⟩⟩)
      · refine W.know (fun hg => ?_)
        rw [hH0] at hg
        exact en_i hx hb hr hlocks hL rfl (Nat.zero_le _) (Nat.zero_le _) dX5_readStatement_27 (⟨_, (fun _ _ _ => rfl), hT, hF, hsu, Or.inl ⟨rfl, hg⟩, Or.inr ⟨rfl, _, _, (stm_l_e e2822 e2840 (by rw [← htw]; exact e2854)), x2855⟩⟩)
    · refine lv_if_eq (tgt := 28) hx hb dX5_readStatement_20 (by decide) (fun _ => ?_) (fun c9 => absurd (by decide) c9)
      refine lv_aload_n hx hb dX5_readStatement_28 rfl (lv_at hl 0 rfl) ?_
      refine va_ldcS hx hb hown (hN.s 4 rfl) dX5_readStatement_29 ?_
      refine cv_i (As := [.ref (cs 104)]) (rest := []) (b := w) ⟨hx, hb, hml, hown, hts⟩ (c_X5_isWord hT (w := w) hw (i := 4) (by decide) (by first | omega | decide | assumption) (by first | omega | decide | assumption) (by first | omega | decide | assumption) (by first | omega | decide | assumption) ⟨hkw, hktx, hkco⟩) (cwV 1 hts gX5_readStatement_X5_isWord rfl rfl rfl hdX5_isWord_v ⟨Nat.le_of_ble_eq_true rfl, Nat.le_of_ble_eq_true rfl⟩) hN hE hL (rcv6 hN hT hw.1) rfl rfl hl.1 (Nat.le_of_ble_eq_true rfl) dX5_readStatement_31 (Nat.zero_le _) (Nat.zero_le _) (fun r2856 H1 locs hL hqr2856 => ?_)
      obtain ⟨h9, hqr2856⟩ := hqr2856; replace h9 := h9.symm; subst h9
      rcases hqr2856 with ⟨rfl, e2857⟩ | ⟨rfl, e2858⟩
      · have htw := tkE_w hY (i := 4) (by decide) e2857
        have hwl := isW_lt hY (i := 4) (by decide) e2857
        rw [← htw] at hwl
        refine lv_if_eq (tgt := 52) hx hb dX5_readStatement_34 (by decide) (fun c9 => absurd c9 (by decide)) (fun _ => ?_)
        refine lv_aload_n hx hb dX5_readStatement_37 rfl (lv_at hl 0 rfl) ?_
        obtain ⟨hb2859, e2859, hat2859, hk2859⟩ := hT.o6 hw.1
        obtain ⟨f2859_0, f2859_2, f2859_3, f2859_4, f2859_5, f2859_6, f2859_7, f2859_8, f2859_9, f2859_10, f2859_11, f2859_12, f2859_13, rfl, c2859_1, c2859_2, c2859_3, c2859_5, c2859_10, t2859_0, t2859_9, c2859_11, c2859_p2⟩ := hk2859
        obtain ⟨rfl, rfl, rfl, rfl, rfl, rfl, rfl, rfl, rfl, rfl, rfl, rfl, rfl⟩ := eq6 hat2859 hkw (by omega)
        have hP : va_P D vwCl [(w, .inr (5, [.ref tx, .int (nI ((κ w).2.2.1)), .int (nI tn), .int (nI ((tkE B z))), .int (tkK B z), .int (nI z), .int (tkV B z), .int ta, .int tk, .ref co, .int (nI cc), .ref (κ w).2.2.2, .int ec, .int es]))] _ := va_P.cons hat2859 va_P.nil
        refine va_get (D := D) (ci := 5) (v := .ref (κ w).2.2.2) (C := RX5) (T := TX5) (N := 14) hx hb hts iX5_readStatement_5 hown hN.1 hP 0 rfl rfl 11 (by decide) (hts _ mX5_readStatement_1) (fun _ h9 => h9) rfl dX5_readStatement_38 ?_
        obtain ⟨hb2860, e2860, hat2860, hk2860⟩ := hT.o7 hsu.1
        obtain ⟨f2860_0, f2860_1, f2860_2, f2860_3, f2860_4, f2860_5, f2860_6, f2860_7, rfl, c2860_0, c2860_3, c2860_mg, t2860_4, t2860_5, t2860_6, t2860_7⟩ := hk2860
        rw [hsu.2] at t2860_4
        rw [hsu.2] at t2860_5
        rw [hsu.2] at t2860_6
        rw [hsu.2] at t2860_7
        obtain ⟨rfl, rfl, rfl, rfl, rfl, rfl, rfl, rfl⟩ := eq7 hat2860 hksq (by omega)
        have hP : va_P D vwCl [((κ w).2.2.2, .inr (6, [.int (nI pl), .int ne, .int pa, mg, .ref ct, .ref of, .ref dr, .ref dl])), (w, .inr (5, [.ref tx, .int (nI ((κ w).2.2.1)), .int (nI tn), .int (nI ((tkE B z))), .int (tkK B z), .int (nI z), .int (tkV B z), .int ta, .int tk, .ref co, .int (nI cc), .ref (κ w).2.2.2, .int ec, .int es]))] _ := va_P.cons hat2860 hP
        refine va_getN (D := D) (ci := 6) (v := .int ne) (C := RX6) (T := TX6) (N := 8) hx hb hts iX5_readStatement_6 hown hN.1 hP 0 rfl rfl 1 (by decide) (hN.f 40 rfl) (fun _ h9 => h9) rfl dX5_readStatement_41 ?_
        refine lv_if_ne (tgt := 52) hx hb dX5_readStatement_44 (by decide) (fun c2861 => ?_) (fun c2861 => ?_)
        · refine lv_aload_n hx hb dX5_readStatement_52 rfl (lv_at hl 0 rfl) ?_
          refine va_ldcS hx hb hown (hN.s 5 rfl) dX5_readStatement_53 ?_
          refine cv_i (As := [.ref (cs 105)]) (rest := []) (b := w) ⟨hx, hb, hml, hown, hts⟩ (c_X5_isWord hT (w := w) hw (i := 5) (by decide) (by first | omega | decide | assumption) (by first | omega | decide | assumption) (by first | omega | decide | assumption) (by first | omega | decide | assumption) ⟨hkw, hktx, hkco⟩) (cwV 1 hts gX5_readStatement_X5_isWord rfl rfl rfl hdX5_isWord_v ⟨Nat.le_of_ble_eq_true rfl, Nat.le_of_ble_eq_true rfl⟩) hN hE hL (rcv6 hN hT hw.1) rfl rfl hl.1 (Nat.le_of_ble_eq_true rfl) dX5_readStatement_55 (Nat.zero_le _) (Nat.zero_le _) (fun r2862 H1 locs hL hqr2862 => ?_)
          obtain ⟨h9, hqr2862⟩ := hqr2862; replace h9 := h9.symm; subst h9
          rcases hqr2862 with ⟨rfl, e2863⟩ | ⟨rfl, e2864⟩
          · have htw := tkE_w hY (i := 5) (by decide) e2863
            have hwl := isW_lt hY (i := 5) (by decide) e2863
            rw [← htw] at hwl
            refine lv_if_eq (tgt := 76) hx hb dX5_readStatement_58 (by decide) (fun c9 => absurd c9 (by decide)) (fun _ => ?_)
            refine lv_aload_n hx hb dX5_readStatement_61 rfl (lv_at hl 0 rfl) ?_
            refine va_get (D := D) (ci := 5) (v := .ref (κ w).2.2.2) (C := RX5) (T := TX5) (N := 14) hx hb hts iX5_readStatement_5 hown hN.1 hP 1 rfl rfl 11 (by decide) (hts _ mX5_readStatement_1) (fun _ h9 => h9) rfl dX5_readStatement_62 ?_
            refine va_getN (D := D) (ci := 6) (v := .int pa) (C := RX6) (T := TX6) (N := 8) hx hb hts iX5_readStatement_6 hown hN.1 hP 0 rfl rfl 2 (by decide) (hN.f 42 rfl) (fun _ h9 => h9) rfl dX5_readStatement_65 ?_
            refine lv_if_ne (tgt := 76) hx hb dX5_readStatement_68 (by decide) (fun c2865 => ?_) (fun c2865 => ?_)
            · refine lv_aload_n hx hb dX5_readStatement_76 rfl (lv_at hl 0 rfl) ?_
              refine va_ldcS hx hb hown (hN.s 6 rfl) dX5_readStatement_77 ?_
              refine cv_i (As := [.ref (cs 106)]) (rest := []) (b := w) ⟨hx, hb, hml, hown, hts⟩ (c_X5_isWord hT (w := w) hw (i := 6) (by decide) (by first | omega | decide | assumption) (by first | omega | decide | assumption) (by first | omega | decide | assumption) (by first | omega | decide | assumption) ⟨hkw, hktx, hkco⟩) (cwV 1 hts gX5_readStatement_X5_isWord rfl rfl rfl hdX5_isWord_v ⟨Nat.le_of_ble_eq_true rfl, Nat.le_of_ble_eq_true rfl⟩) hN hE hL (rcv6 hN hT hw.1) rfl rfl hl.1 (Nat.le_of_ble_eq_true rfl) dX5_readStatement_79 (Nat.zero_le _) (Nat.zero_le _) (fun r2866 H1 locs hL hqr2866 => ?_)
              obtain ⟨h9, hqr2866⟩ := hqr2866; replace h9 := h9.symm; subst h9
              rcases hqr2866 with ⟨rfl, e2867⟩ | ⟨rfl, e2868⟩
              · have htw := tkE_w hY (i := 6) (by decide) e2867
                have hwl := isW_lt hY (i := 6) (by decide) e2867
                rw [← htw] at hwl
                refine lv_if_eq (tgt := 133) hx hb dX5_readStatement_82 (by decide) (fun c9 => absurd c9 (by decide)) (fun _ => ?_)
                refine lv_aload_n hx hb dX5_readStatement_85 rfl (lv_at hl 0 rfl) ?_
                refine va_get (D := D) (ci := 5) (v := .ref (κ w).2.2.2) (C := RX5) (T := TX5) (N := 14) hx hb hts iX5_readStatement_5 hown hN.1 hP 1 rfl rfl 11 (by decide) (hts _ mX5_readStatement_1) (fun _ h9 => h9) rfl dX5_readStatement_86 ?_
                rcases c2860_3 with rfl | ⟨a2869, rfl, ta2869⟩
                · refine va_getN (D := D) (ci := 6) (v := .null) (C := RX6) (T := TX6) (N := 8) hx hb hts iX5_readStatement_6 hown hN.1 hP 0 rfl rfl 3 (by decide) (hN.f 44 rfl) (fun _ h9 => h9) rfl dX5_readStatement_89 ?_
                  refine lv_ifnonnullN hx hb dX5_readStatement_92 ?_
                  have hmg1 : (κ (κ w).2.2.2).2.2.1 ≠ 1 := (c2860_mg).resolve_right (by rintro ⟨_, h9⟩; cases h9)
                  have hon : om = none ∧ cc = 0 := hom.elim (fun g9 => ⟨g9.1, g9.2.2⟩) (fun g9 => by obtain ⟨_, _, e9⟩ := g9; cases e9)
                  refine lv_aload_n hx hb dX5_readStatement_95 rfl (lv_at hl 0 rfl) ?_
                  refine cv_v (As := []) (rest := []) (b := w) ⟨hx, hb, hml, hown, hts⟩ (c_X5_step hT (w := w) hw (by first | omega | decide | assumption) (by first | omega | decide | assumption) (by first | omega | decide | assumption) (by first | omega | decide | assumption) (by first | omega | decide | assumption) ⟨hkw, hktx, hkco⟩) (cwV 0 hts gX5_readStatement_X5_step rfl rfl rfl hdX5_step_v ⟨Nat.le_of_ble_eq_true rfl, Nat.le_of_ble_eq_true rfl⟩) hN hE hL (rcv6 hN hT hw.1) rfl rfl hl.1 (Nat.le_of_ble_eq_true rfl) dX5_readStatement_96 (Nat.zero_le _) (Nat.zero_le _) (fun H1 locs hL hqr2870 => ?_)
                  obtain ⟨hT1, hF1, hqr2870⟩ := hqr2870
                  have hP : va_P D vwCl [((κ w).2.2.2, .inr (6, [.int (nI pl), .int ne, .int pa, .null, .ref ct, .ref of, .ref dr, .ref dl]))] _ := hF1.hP (hP.sub [0] rfl) (fa_c ⟨by rw [hsu.1]; decide, by rw [hsu.2]; first | decide | (simp; done) | (simp [h15a, h15b, h15c]; done) | (simp; omega)⟩ fa_n)
                  have hksq := hF1.hP (va_P.cons hksq va_P.nil) (fa_c ⟨by rw [hsu.1]; decide, by rw [hsu.2]; first | decide | (simp; done) | (simp; omega)⟩ fa_n) 0 _ rfl
                  have hkct := hF1.hP (va_P.cons hkct va_P.nil) (fa_c ⟨by rw [hct.1]; decide, by rw [hct.2]; first | decide | (simp; done) | (simp; omega)⟩ fa_n) 0 _ rfl
                  have hkof := hF1.hP (va_P.cons hkof va_P.nil) (fa_c ⟨by rw [hof.1]; decide, by rw [hof.2]; first | decide | (simp; done) | (simp; omega)⟩ fa_n) 0 _ rfl
                  have hkdr := hF1.hP (va_P.cons hkdr va_P.nil) (fa_c ⟨by rw [hdr.1]; decide, by rw [hdr.2]; first | decide | (simp; done) | (simp; omega)⟩ fa_n) 0 _ rfl
                  have hkdl := hF1.hP (va_P.cons hkdl va_P.nil) (fa_c ⟨by rw [hdl.1]; decide, by rw [hdl.2]; first | decide | (simp; done) | (simp; omega)⟩ fa_n) 0 _ rfl
                  have hF := hF.tr (hF1.mono (by simp))
                  have hT := hT1
                  have m2871 := hqr2870
                  obtain ⟨z2872, hz2872⟩ : ∃ z9, z9 = skp B ((tkE B z)) := ⟨_, rfl⟩
                  rw [← hz2872] at m2871
                  have bz2872 : z2872 ≤ tn := by rw [hz2872]; exact run_ub hY (by decide) (by omega)
                  have hzE := tkE_le hY (s := z2872) (by omega)
                  obtain ⟨hkw, hktx, hkco⟩ := m2871
                  have hz1b : cc ≤ z2872 := by omega
                  refine lv_aload_n hx hb dX5_readStatement_99 rfl (lv_at hl 0 rfl) ?_
                  refine lv_iconst (v := 0) hx hb dX5_readStatement_100 (by decide) ?_
                  refine cv_i (As := [.int 0]) (rest := []) (b := w) ⟨hx, hb, hml, hown, hts⟩ (c_X5_readSum_d0 hT (w := w) hw (by first | omega | decide | assumption) (by first | omega | decide | assumption) (by first | omega | decide | assumption) (by first | omega | decide | assumption) ⟨hkw, hktx, hkco⟩ (by first | omega | decide | assumption)) (cwV 1 hts gX5_readStatement_X5_readSum rfl rfl rfl hdX5_readSum_v ⟨Nat.le_of_ble_eq_true rfl, Nat.le_of_ble_eq_true rfl⟩) hN hE hL (rcv6 hN hT hw.1) rfl rfl hl.1 (Nat.le_of_ble_eq_true rfl) dX5_readStatement_101 (Nat.zero_le _) (Nat.zero_le _) (fun r2873 H1 locs hL hqr2873 => ?_)
                  obtain ⟨hT1, hF1, hqr2873⟩ := hqr2873
                  have hP : va_P D vwCl [((κ w).2.2.2, .inr (6, [.int (nI pl), .int ne, .int pa, .null, .ref ct, .ref of, .ref dr, .ref dl]))] _ := hF1.hP (hP.sub [0] rfl) (fa_c ⟨by rw [hsu.1]; decide, by rw [hsu.2]; first | decide | (simp; done) | (simp [h15a, h15b, h15c]; done) | (simp; omega)⟩ fa_n)
                  have hksq := hF1.hP (va_P.cons hksq va_P.nil) (fa_c ⟨by rw [hsu.1]; decide, by rw [hsu.2]; first | decide | (simp; done) | (simp; omega)⟩ fa_n) 0 _ rfl
                  have hkct := hF1.hP (va_P.cons hkct va_P.nil) (fa_c ⟨by rw [hct.1]; decide, by rw [hct.2]; first | decide | (simp; done) | (simp; omega)⟩ fa_n) 0 _ rfl
                  have hkof := hF1.hP (va_P.cons hkof va_P.nil) (fa_c ⟨by rw [hof.1]; decide, by rw [hof.2]; first | decide | (simp; done) | (simp; omega)⟩ fa_n) 0 _ rfl
                  have hkdr := hF1.hP (va_P.cons hkdr va_P.nil) (fa_c ⟨by rw [hdr.1]; decide, by rw [hdr.2]; first | decide | (simp; done) | (simp; omega)⟩ fa_n) 0 _ rfl
                  have hkdl := hF1.hP (va_P.cons hkdl va_P.nil) (fa_c ⟨by rw [hdl.1]; decide, by rw [hdl.2]; first | decide | (simp; done) | (simp; omega)⟩ fa_n) 0 _ rfl
                  have hF := hF.tr (hF1.mono (by simp))
                  have hT := hT1
                  rcases hqr2873 with ⟨rfl, l2874, q2875, f2876, t2877, k2878, e2879, u2880, v2881, b2882, c2883, m2884⟩ | ⟨rfl, c2885, o2886, e2887, x2888⟩
                  · obtain ⟨hkw, hktx, hkco⟩ := m2884
                    have hzE := tkE_le hY (s := q2875) (by omega)
                    refine lv_if_ne (tgt := 109) hx hb dX5_readStatement_104 (by decide) (fun _ => ?_) (fun c9 => absurd c9 (by decide))
                    refine lv_aload_n hx hb dX5_readStatement_109 rfl (lv_at hl 0 rfl) ?_
                    obtain ⟨hb2889, e2889, hat2889, hk2889⟩ := hT.o6 hw.1
                    obtain ⟨f2889_0, f2889_2, f2889_3, f2889_4, f2889_5, f2889_6, f2889_7, f2889_8, f2889_9, f2889_10, f2889_11, f2889_12, f2889_13, rfl, c2889_1, c2889_2, c2889_3, c2889_5, c2889_10, t2889_0, t2889_9, c2889_11, c2889_p2⟩ := hk2889
                    obtain ⟨rfl, rfl, rfl, rfl, rfl, rfl, rfl, rfl, rfl, rfl, rfl, rfl, rfl⟩ := eq6 hat2889 hkw (by omega)
                    have hP : va_P D vwCl [(w, .inr (5, [.ref tx, .int (nI ((κ w).2.2.1)), .int (nI tn), .int (nI ((tkE B q2875))), .int (tkK B q2875), .int (nI q2875), .int (tkV B q2875), .int t2877, .int k2878, .ref co, .int (nI (cc + l2874.length)), .ref (κ w).2.2.2, .int ec, .int es])), ((κ w).2.2.2, .inr (6, [.int (nI pl), .int ne, .int pa, .null, .ref ct, .ref of, .ref dr, .ref dl]))] _ := va_P.cons hat2889 hP
                    refine va_get (D := D) (ci := 5) (v := .ref (κ w).2.2.2) (C := RX5) (T := TX5) (N := 14) hx hb hts iX5_readStatement_5 hown hN.1 hP 0 rfl rfl 11 (by decide) (hts _ mX5_readStatement_1) (fun _ h9 => h9) rfl dX5_readStatement_110 ?_
                    have hb0 : B0 ≤ _ := hT.b0 hw (by decide)
                    have hB : Bx B0 D _ [(w, .inr (5, [.ref tx, .int (nI ((κ w).2.2.1)), .int (nI tn), .int (nI ((tkE B q2875))), .int (tkK B q2875), .int (nI q2875), .int (tkV B q2875), .int t2877, .int k2878, .ref co, .int (nI (cc + l2874.length)), .ref (κ w).2.2.2, .int ec, .int es])), ((κ w).2.2.2, .inr (6, [.int (nI pl), .int ne, .int pa, .null, .ref ct, .ref of, .ref dr, .ref dl]))] [] _ _ := Bx.of (fun a => (κ a).1) hL hP (fa_c hb2889 (fa_c hb2860 fa_n)) (by simp only [List.map_cons, List.map_nil, hw.1, hsu.1]; decide)
                    refine nw_o (ci := 0) (fs := [.null, .null]) (C := RX0) (T := TX0) (N := 2) hx hb hts iX5_readStatement_0 tyX0 tyX0_ok hown (hts _ mX5_readStatement_2) (hts _ mX5_readStatement_3) (hts _ mX5_readStatement_4) hN rfl dfl0 (show 0 + 1 ≤ 3 by omega) (show 0 + 2 ≤ 618 by omega) dX5_readStatement_113 (fun q2890 H heq2890 hzq2890 hoq2890 hatq2890 => ?_)
                    have hgeq2890 : _ ≤ q2890 := Nat.le_trans hB.2.2.1 (Nat.le_of_eq heq2890.symm)
                    have hbq2890 : B0 ≤ q2890 := Nat.le_trans hb0 hgeq2890
                    have hfq2890 : (κ q2890).1 = 0 := hT.fresh hgeq2890
                    have hB := hB.nw heq2890 hzq2890 hoq2890 hatq2890 hb0
                    have hB : Bx B0 D _ [(w, .inr (5, [.ref tx, .int (nI ((κ w).2.2.1)), .int (nI tn), .int (nI ((tkE B q2875))), .int (tkK B q2875), .int (nI q2875), .int (tkV B q2875), .int t2877, .int k2878, .ref co, .int (nI (cc + l2874.length)), .ref (κ w).2.2.2, .int ec, .int es])), ((κ w).2.2.2, .inr (6, [.int (nI pl), .int ne, .int pa, .null, .ref ct, .ref of, .ref dr, .ref dl])), (q2890, .inr (0, [.null, .null]))] [] _ _ := hB
                    refine lv_dup hx hb dX5_readStatement_116 rfl ?_
                    refine lv_aload_n hx hb dX5_readStatement_117 rfl (lv_at hl 0 rfl) ?_
                    refine va_get (D := D) (ci := 5) (v := .ref co) (C := RX5) (T := TX5) (N := 14) hx hb hts iX5_readStatement_5 hown hN.1 hB.1 0 rfl rfl 9 (by decide) (hts _ mX5_readStatement_5) (fun _ h9 => h9) rfl dX5_readStatement_118 ?_
                    refine lv_aload_n hx hb dX5_readStatement_121 rfl (lv_at hl 0 rfl) ?_
                    refine va_get (D := D) (ci := 5) (v := .int (nI (cc + l2874.length))) (C := RX5) (T := TX5) (N := 14) hx hb hts iX5_readStatement_5 hown hN.1 hB.1 0 rfl rfl 10 (by decide) (hts _ mX5_readStatement_6) (fun _ h9 => h9) rfl dX5_readStatement_122 ?_
                    have hT : WT B0 D cs T κ _ := hT.close hB trivial
                    have hF : Fr B0 [10, 11] κ H0 _ := hF.close hB fa_n
                    have hL : OkL B0 _ := hB.2.2.2.2.2
                    have hP : va_P D vwCl [(w, .inr (5, [.ref tx, .int (nI ((κ w).2.2.1)), .int (nI tn), .int (nI ((tkE B q2875))), .int (tkK B q2875), .int (nI q2875), .int (tkV B q2875), .int t2877, .int k2878, .ref co, .int (nI (cc + l2874.length)), .ref (κ w).2.2.2, .int ec, .int es])), ((κ w).2.2.2, .inr (6, [.int (nI pl), .int ne, .int pa, .null, .ref ct, .ref of, .ref dr, .ref dl])), (q2890, .inr (0, [.null, .null]))] _ := hB.1
                    have hksq : va_at D vwCl ((κ w).2.2.2, .inr (6, [.int (nI pl), .int ne, .int pa, .null, .ref ct, .ref of, .ref dr, .ref dl])) _ := hP 1 _ rfl
                    have hkct := hkct.kept (hB.2.2.2.1 _ hkct.lt (by simp))
                    have hkof := hkof.kept (hB.2.2.2.1 _ hkof.lt (by simp))
                    have hkdr := hkdr.kept (hB.2.2.2.1 _ hkdr.lt (by simp))
                    have hkdl := hkdl.kept (hB.2.2.2.1 _ hkdl.lt (by simp))
                    have hkw : va_at D vwCl (w, .inr (5, [.ref tx, .int (nI ((κ w).2.2.1)), .int (nI tn), .int (nI ((tkE B q2875))), .int (tkK B q2875), .int (nI q2875), .int (tkV B q2875), .int t2877, .int k2878, .ref co, .int (nI (cc + l2874.length)), .ref (κ w).2.2.2, .int ec, .int es])) _ := hP 0 _ rfl
                    have hktx := hktx.kept (hB.2.2.2.1 _ hktx.lt (by simp))
                    have hkco := hkco.kept (hB.2.2.2.1 _ hkco.lt (by simp))
                    refine ci_v (As := [.ref co, .int (nI (cc + l2874.length))]) (rest := [.ref q2890, .ref (κ w).2.2.2]) (b := q2890) ⟨hx, hb, hml, hown, hts⟩ (c_X0_init hT (w := q2890) hfq2890 hbq2890 (hP 2 _ rfl) (v := co) t2889_9 (n := (cc + l2874.length)) (by first | omega | decide | assumption)) (cwI 2 hts gX5_readStatement_X0_init rfl rfl rfl (hts _ mX5_readStatement_4) (hts _ mX5_readStatement_156) (hts _ mX5_readStatement_157) rfl hdX0_init_o ⟨Nat.le_of_ble_eq_true rfl, Nat.le_of_ble_eq_true rfl⟩) hN hE hL rfl rfl hl.1 (Nat.le_of_ble_eq_true rfl) dX5_readStatement_125 (show 1 + 2 ≤ 3 by omega) (show (0 + 2) + 616 ≤ 618 by omega) (fun H1 locs hL hqr2891 => ?_)
                    obtain ⟨κr2891, hxr2891, hT1, hF1, hqr2891⟩ := hqr2891
                    have hksq := hF1.hP (va_P.cons hksq va_P.nil) (fa_c ⟨by rw [hsu.1]; decide, by rw [hsu.2]; first | decide | (simp; done) | (simp; omega)⟩ fa_n) 0 _ rfl
                    have hkct := hF1.hP (va_P.cons hkct va_P.nil) (fa_c ⟨by rw [hct.1]; decide, by rw [hct.2]; first | decide | (simp; done) | (simp; omega)⟩ fa_n) 0 _ rfl
                    have hkof := hF1.hP (va_P.cons hkof va_P.nil) (fa_c ⟨by rw [hof.1]; decide, by rw [hof.2]; first | decide | (simp; done) | (simp; omega)⟩ fa_n) 0 _ rfl
                    have hkdr := hF1.hP (va_P.cons hkdr va_P.nil) (fa_c ⟨by rw [hdr.1]; decide, by rw [hdr.2]; first | decide | (simp; done) | (simp; omega)⟩ fa_n) 0 _ rfl
                    have hkdl := hF1.hP (va_P.cons hkdl va_P.nil) (fa_c ⟨by rw [hdl.1]; decide, by rw [hdl.2]; first | decide | (simp; done) | (simp; omega)⟩ fa_n) 0 _ rfl
                    have hkw := hF1.hP (va_P.cons hkw va_P.nil) (fa_c ⟨by rw [hw.1]; decide, by rw [hw.2]; first | decide | (simp; done) | (simp; omega)⟩ fa_n) 0 _ rfl
                    have hktx := hF1.hP (va_P.cons hktx va_P.nil) (fa_c ⟨by rw [htx.1]; decide, by rw [htx.2]; first | decide | (simp; done) | (simp; omega)⟩ fa_n) 0 _ rfl
                    have hkco := hF1.hP (va_P.cons hkco va_P.nil) (fa_c ⟨by rw [hco.1]; decide, by rw [hco.2]; first | decide | (simp; done) | (simp; omega)⟩ fa_n) 0 _ rfl
                    have hF := hF.tr (hF1.mono (by simp))
                    have hT := hT1
                    have hKF : KF κ κr2891 := hxr2891.f
                    have hKX : KX κ κr2891 := hxr2891
                    have hw := (hxr2891.f.t2 hw (by decide))
                    have hsu := (hxr2891.f.t2 hsu (by decide))
                    have htx := (hxr2891.f.t2 htx (by decide))
                    have hco := (hxr2891.f.t2 hco (by decide))
                    have hct := (hxr2891.f.t2 hct (by decide))
                    have hof := (hxr2891.f.t2 hof (by decide))
                    have hdr := (hxr2891.f.t2 hdr (by decide))
                    have hdl := (hxr2891.f.t2 hdl (by decide))
                    have hq2890 := hqr2891
                    obtain ⟨hb2892, e2892, hat2892, hk2892⟩ := hT.o7 hsu.1
                    obtain ⟨f2892_0, f2892_1, f2892_2, f2892_3, f2892_4, f2892_5, f2892_6, f2892_7, rfl, c2892_0, c2892_3, c2892_mg, t2892_4, t2892_5, t2892_6, t2892_7⟩ := hk2892
                    rw [hsu.2] at t2892_4
                    rw [hsu.2] at t2892_5
                    rw [hsu.2] at t2892_6
                    rw [hsu.2] at t2892_7
                    obtain ⟨rfl, rfl, rfl, rfl, rfl, rfl, rfl, rfl⟩ := eq7 hat2892 hksq (by omega)
                    have hP : va_P D vwCl [((κ w).2.2.2, .inr (6, [.int (nI pl), .int ne, .int pa, .null, .ref ct, .ref of, .ref dr, .ref dl]))] _ := va_P.cons hat2892 va_P.nil
                    have hB : Bx B0 D _ [((κ w).2.2.2, .inr (6, [.int (nI pl), .int ne, .int pa, .null, .ref ct, .ref of, .ref dr, .ref dl]))] [] _ _ := Bx.of (fun a => (κr2891 a).1) hL hP (fa_c hb2892 fa_n) (by simp only [List.map_cons, List.map_nil, hsu.1]; decide)
                    refine b_putN (D := D) (ci := 6) (v := .ref q2890) (ty := .object "OneBeat$Formula") (C := RX6) (T := TX6) (N := 8) hx hb hts iX5_readStatement_6 tyX6 tyX6_ok nmX6 hown hN hB 0 rfl rfl 3 (by decide) (hN.f 44 rfl) (fun _ h9 => h9) rfl (by decide +kernel) rfl rfl (Nat.le_of_ble_eq_true rfl) (.inl rfl) dX5_readStatement_128 (fun H locs hB => ?_)
                    have hB : Bx B0 D _ [((κ w).2.2.2, .inr (6, [.int (nI pl), .int ne, .int pa, .ref q2890, .ref ct, .ref of, .ref dr, .ref dl]))] [(κ w).2.2.2] _ _ := hB
                    refine lv_iconst (v := 1) hx hb dX5_readStatement_131 (by decide) ?_
                    have hF : Fr B0 [10, 11] κ H0 _ := hF.closeN hB (fa_c (fun h9 => by rw [← (hKF _ h9).2, hsu.2]; simp) fa_n)
                    have hT : WT B0 D cs T (kp κr2891 (κ w).2.2.2 1 0) _ := hT.closeK (κ w).2.2.2 1 0 hB (by rw [hsu.1]; decide) (by rw [hsu.1]; decide) (List.mem_of_getElem? (i := 0) rfl) ⟨⟨0, _, rfl, kp_ok (ok_7 (k := ((κr2891 (κ w).2.2.2).1, (κr2891 (κ w).2.2.2).2.1, _, _)) hsu.1 ⟨_, _, _, _, _, _, _, _, rfl, (by omega), (Or.inr ⟨_, rfl, (t2kp hq2890)⟩), (Or.inr ⟨_, rfl⟩), ⟨(t2kp t2892_4).1, by rw [hsu.2]; exact (t2kp t2892_4).2⟩, ⟨(t2kp t2892_5).1, by rw [hsu.2]; exact (t2kp t2892_5).2⟩, ⟨(t2kp t2892_6).1, by rw [hsu.2]; exact (t2kp t2892_6).2⟩, ⟨(t2kp t2892_7).1, by rw [hsu.2]; exact (t2kp t2892_7).2⟩⟩)⟩, trivial⟩
                    have hL : OkL B0 _ := hB.2.2.2.2.2
                    have hP : va_P D vwCl [((κ w).2.2.2, .inr (6, [.int (nI pl), .int ne, .int pa, .ref q2890, .ref ct, .ref of, .ref dr, .ref dl]))] _ := hB.1
                    have hksq : va_at D vwCl ((κ w).2.2.2, .inr (6, [.int (nI pl), .int ne, .int pa, .ref q2890, .ref ct, .ref of, .ref dr, .ref dl])) _ := hP 0 _ rfl
                    have hkct := hkct.kept (hB.2.2.2.1 _ hkct.lt (by simp only [List.mem_cons, List.not_mem_nil, or_false, not_or]; exact ne_c hct.1 hsu.1 (by decide)))
                    have hkof := hkof.kept (hB.2.2.2.1 _ hkof.lt (by simp only [List.mem_cons, List.not_mem_nil, or_false, not_or]; exact ne_c hof.1 hsu.1 (by decide)))
                    have hkdr := hkdr.kept (hB.2.2.2.1 _ hkdr.lt (by simp only [List.mem_cons, List.not_mem_nil, or_false, not_or]; exact ne_c hdr.1 hsu.1 (by decide)))
                    have hkdl := hkdl.kept (hB.2.2.2.1 _ hkdl.lt (by simp only [List.mem_cons, List.not_mem_nil, or_false, not_or]; exact ne_c hdl.1 hsu.1 (by decide)))
                    have hkw := hkw.kept (hB.2.2.2.1 _ hkw.lt (by simp only [List.mem_cons, List.not_mem_nil, or_false, not_or]; exact ne_c hw.1 hsu.1 (by decide)))
                    have hktx := hktx.kept (hB.2.2.2.1 _ hktx.lt (by simp only [List.mem_cons, List.not_mem_nil, or_false, not_or]; exact ne_c htx.1 hsu.1 (by decide)))
                    have hkco := hkco.kept (hB.2.2.2.1 _ hkco.lt (by simp only [List.mem_cons, List.not_mem_nil, or_false, not_or]; exact ne_c hco.1 hsu.1 (by decide)))
                    have hsu := t2kp (x := 1) (y := 0) (a := (κ w).2.2.2) hsu
                    refine W.know (fun hg => ?_)
                    rw [hH0] at hg
                    exact en_i hx hb hr hlocks hL rfl (show 3 ≤ 3 by omega) (show ((0 + 2) + 616) ≤ 618 by omega) dX5_readStatement_132 (⟨_, (fun a h1 h2 => (kp_n h2).trans (hKX a h1)), hT, hF, hsu, Or.inr ⟨hmg1, by rw [kp_a], hg.mono (by omega) (by omega)⟩, Or.inl ⟨rfl, _, _, _, _, _, _, _, _, _, _, _, _, _, (stm_m_o e2822 e2841 (fun g9 => c2861 g9.2) (fun g9 => c2865 g9.2) e2867 hon.1 (by rw [← htw, ← hz2872]; exact e2879)), (by omega), (by omega), (by omega), Or.inr ⟨(fun g9 => by cases g9), _, rfl⟩, ⟨hkw, hktx, hkco⟩, ⟨hksq, hkct, hkof, hkdr, hkdl, hod⟩⟩⟩)
                  · refine lv_if_ne (tgt := 109) hx hb dX5_readStatement_104 (by decide) (fun c9 => absurd (by decide) c9) (fun _ => ?_)
                    refine lv_iconst (v := 0) hx hb dX5_readStatement_107 (by decide) ?_
                    refine W.know (fun hg => ?_)
                    rw [hH0] at hg
                    exact en_i hx hb hr hlocks hL rfl (Nat.zero_le _) (Nat.zero_le _) dX5_readStatement_108 (⟨_, (fun _ _ _ => rfl), hT, hF, hsu, Or.inl ⟨rfl, hg⟩, Or.inr ⟨rfl, _, _, (stm_m_e e2822 e2841 (fun g9 => c2861 g9.2) (fun g9 => c2865 g9.2) e2867 hon.1 (by rw [← htw, ← hz2872]; exact e2887)), x2888⟩⟩)
                · refine va_getN (D := D) (ci := 6) (v := .ref a2869) (C := RX6) (T := TX6) (N := 8) hx hb hts iX5_readStatement_6 hown hN.1 hP 0 rfl rfl 3 (by decide) (hN.f 44 rfl) (fun _ h9 => h9) rfl dX5_readStatement_89 ?_
                  refine lv_ifnonnull (tgt := 133) hx hb dX5_readStatement_92 (by decide) ?_
                  have hon : ¬ om = none := hom.elim (fun g9 => absurd g9.2.1 (by simp)) (fun g9 => g9.1)
                  refine lv_aload_n hx hb dX5_readStatement_133 rfl (lv_at hl 0 rfl) ?_
                  refine lv_bipush (v := (-2)) hx hb dX5_readStatement_134 (by decide) ?_
                  refine lv_aload_n hx hb dX5_readStatement_136 rfl (lv_at hl 0 rfl) ?_
                  refine va_get (D := D) (ci := 5) (v := .int (nI z)) (C := RX5) (T := TX5) (N := 14) hx hb hts iX5_readStatement_5 hown hN.1 hP 1 rfl rfl 5 (by decide) (hts _ mX5_readStatement_7) (fun _ h9 => h9) rfl dX5_readStatement_137 ?_
                  refine cv_i (As := [.int (-2), .int (nI z)]) (rest := []) (b := w) ⟨hx, hb, hml, hown, hts⟩ (c_X5_fail hT (w := w) hw (x := (-2)) (y := (nI z)) (by first | omega | decide | assumption) (by first | omega | decide | assumption) (by first | omega | decide | assumption) (by first | omega | decide | assumption) (by first | omega | decide | assumption) ⟨hkw, hktx, hkco⟩) (cwV 2 hts gX5_readStatement_X5_fail rfl rfl rfl hdX5_fail_v ⟨Nat.le_of_ble_eq_true rfl, Nat.le_of_ble_eq_true rfl⟩) hN hE hL (rcv6 hN hT hw.1) rfl rfl hl.1 (Nat.le_of_ble_eq_true rfl) dX5_readStatement_140 (Nat.zero_le _) (Nat.zero_le _) (fun r2893 H1 locs hL hqr2893 => ?_)
                  obtain ⟨hT1, hF1, hqr2893⟩ := hqr2893
                  have hP : va_P D vwCl [((κ w).2.2.2, .inr (6, [.int (nI pl), .int ne, .int pa, .ref a2869, .ref ct, .ref of, .ref dr, .ref dl]))] _ := hF1.hP (hP.sub [0] rfl) (fa_c ⟨by rw [hsu.1]; decide, by rw [hsu.2]; first | decide | (simp; done) | (simp [h15a, h15b, h15c]; done) | (simp; omega)⟩ fa_n)
                  have hksq := hF1.hP (va_P.cons hksq va_P.nil) (fa_c ⟨by rw [hsu.1]; decide, by rw [hsu.2]; first | decide | (simp; done) | (simp; omega)⟩ fa_n) 0 _ rfl
                  have hkct := hF1.hP (va_P.cons hkct va_P.nil) (fa_c ⟨by rw [hct.1]; decide, by rw [hct.2]; first | decide | (simp; done) | (simp; omega)⟩ fa_n) 0 _ rfl
                  have hkof := hF1.hP (va_P.cons hkof va_P.nil) (fa_c ⟨by rw [hof.1]; decide, by rw [hof.2]; first | decide | (simp; done) | (simp; omega)⟩ fa_n) 0 _ rfl
                  have hkdr := hF1.hP (va_P.cons hkdr va_P.nil) (fa_c ⟨by rw [hdr.1]; decide, by rw [hdr.2]; first | decide | (simp; done) | (simp; omega)⟩ fa_n) 0 _ rfl
                  have hkdl := hF1.hP (va_P.cons hkdl va_P.nil) (fa_c ⟨by rw [hdl.1]; decide, by rw [hdl.2]; first | decide | (simp; done) | (simp; omega)⟩ fa_n) 0 _ rfl
                  have hF := hF.tr (hF1.mono (by simp))
                  have hT := hT1
                  obtain ⟨rfl, m2894⟩ := hqr2893
                  obtain ⟨hkw, hktx, hkco⟩ := m2894
                  refine W.know (fun hg => ?_)
                  rw [hH0] at hg
                  exact en_i hx hb hr hlocks hL rfl (Nat.zero_le _) (Nat.zero_le _) dX5_readStatement_143 (⟨_, (fun _ _ _ => rfl), hT, hF, hsu, Or.inl ⟨rfl, hg⟩, Or.inr ⟨rfl, _, _, (stm_0 e2822 e2841 (fun g9 => c2861 g9.2) (fun g9 => c2865 g9.2) (fun g9 => hon g9.2)), ⟨_, _, _, _, _, _, _, _, (by omega), (by omega), (by omega), hkw, hktx, hkco⟩⟩⟩)
              · refine lv_if_eq (tgt := 133) hx hb dX5_readStatement_82 (by decide) (fun _ => ?_) (fun c9 => absurd (by decide) c9)
                refine lv_aload_n hx hb dX5_readStatement_133 rfl (lv_at hl 0 rfl) ?_
                refine lv_bipush (v := (-2)) hx hb dX5_readStatement_134 (by decide) ?_
                refine lv_aload_n hx hb dX5_readStatement_136 rfl (lv_at hl 0 rfl) ?_
                refine va_get (D := D) (ci := 5) (v := .int (nI z)) (C := RX5) (T := TX5) (N := 14) hx hb hts iX5_readStatement_5 hown hN.1 hP 1 rfl rfl 5 (by decide) (hts _ mX5_readStatement_7) (fun _ h9 => h9) rfl dX5_readStatement_137 ?_
                refine cv_i (As := [.int (-2), .int (nI z)]) (rest := []) (b := w) ⟨hx, hb, hml, hown, hts⟩ (c_X5_fail hT (w := w) hw (x := (-2)) (y := (nI z)) (by first | omega | decide | assumption) (by first | omega | decide | assumption) (by first | omega | decide | assumption) (by first | omega | decide | assumption) (by first | omega | decide | assumption) ⟨hkw, hktx, hkco⟩) (cwV 2 hts gX5_readStatement_X5_fail rfl rfl rfl hdX5_fail_v ⟨Nat.le_of_ble_eq_true rfl, Nat.le_of_ble_eq_true rfl⟩) hN hE hL (rcv6 hN hT hw.1) rfl rfl hl.1 (Nat.le_of_ble_eq_true rfl) dX5_readStatement_140 (Nat.zero_le _) (Nat.zero_le _) (fun r2895 H1 locs hL hqr2895 => ?_)
                obtain ⟨hT1, hF1, hqr2895⟩ := hqr2895
                have hP : va_P D vwCl [((κ w).2.2.2, .inr (6, [.int (nI pl), .int ne, .int pa, mg, .ref ct, .ref of, .ref dr, .ref dl]))] _ := hF1.hP (hP.sub [0] rfl) (fa_c ⟨by rw [hsu.1]; decide, by rw [hsu.2]; first | decide | (simp; done) | (simp [h15a, h15b, h15c]; done) | (simp; omega)⟩ fa_n)
                have hksq := hF1.hP (va_P.cons hksq va_P.nil) (fa_c ⟨by rw [hsu.1]; decide, by rw [hsu.2]; first | decide | (simp; done) | (simp; omega)⟩ fa_n) 0 _ rfl
                have hkct := hF1.hP (va_P.cons hkct va_P.nil) (fa_c ⟨by rw [hct.1]; decide, by rw [hct.2]; first | decide | (simp; done) | (simp; omega)⟩ fa_n) 0 _ rfl
                have hkof := hF1.hP (va_P.cons hkof va_P.nil) (fa_c ⟨by rw [hof.1]; decide, by rw [hof.2]; first | decide | (simp; done) | (simp; omega)⟩ fa_n) 0 _ rfl
                have hkdr := hF1.hP (va_P.cons hkdr va_P.nil) (fa_c ⟨by rw [hdr.1]; decide, by rw [hdr.2]; first | decide | (simp; done) | (simp; omega)⟩ fa_n) 0 _ rfl
                have hkdl := hF1.hP (va_P.cons hkdl va_P.nil) (fa_c ⟨by rw [hdl.1]; decide, by rw [hdl.2]; first | decide | (simp; done) | (simp; omega)⟩ fa_n) 0 _ rfl
                have hF := hF.tr (hF1.mono (by simp))
                have hT := hT1
                obtain ⟨rfl, m2896⟩ := hqr2895
                obtain ⟨hkw, hktx, hkco⟩ := m2896
                refine W.know (fun hg => ?_)
                rw [hH0] at hg
                exact en_i hx hb hr hlocks hL rfl (Nat.zero_le _) (Nat.zero_le _) dX5_readStatement_143 (⟨_, (fun _ _ _ => rfl), hT, hF, hsu, Or.inl ⟨rfl, hg⟩, Or.inr ⟨rfl, _, _, (stm_0 e2822 e2841 (fun g9 => c2861 g9.2) (fun g9 => c2865 g9.2) (fun g9 => e2868 g9.1)), ⟨_, _, _, _, _, _, _, _, (by omega), (by omega), (by omega), hkw, hktx, hkco⟩⟩⟩)
            · refine lv_aload_n hx hb dX5_readStatement_71 rfl (lv_at hl 0 rfl) ?_
              refine cv_i (As := []) (rest := []) (b := w) ⟨hx, hb, hml, hown, hts⟩ (c_X5_readPatience hT (w := w) hw (by first | omega | decide | assumption) (by first | omega | decide | assumption) (by first | omega | decide | assumption) (by first | omega | decide | assumption) (by first | omega | decide | assumption) ⟨hksq, hkct, hkof, hkdr, hkdl, hod⟩ (by first | omega | decide | assumption) ⟨hkw, hktx, hkco⟩) (cwV 0 hts gX5_readStatement_X5_readPatience rfl rfl rfl hdX5_readPatience_v ⟨Nat.le_of_ble_eq_true rfl, Nat.le_of_ble_eq_true rfl⟩) hN hE hL (rcv6 hN hT hw.1) rfl rfl hl.1 (Nat.le_of_ble_eq_true rfl) dX5_readStatement_72 (Nat.zero_le _) (Nat.zero_le _) (fun r2897 H1 locs hL hqr2897 => ?_)
              obtain ⟨hT1, hF1, hqr2897⟩ := hqr2897
              have hF := hF.tr (hF1.mono (by simp))
              have hT := hT1
              rcases hqr2897 with ⟨rfl, v12898, q2899, t2900, k2901, e2902, u2903, v2904, m2905, x2906⟩ | ⟨rfl, c2907, o2908, e2909, x2910⟩
              · obtain ⟨hkw, hktx, hkco⟩ := m2905
                have hzE := tkE_le hY (s := q2899) (by omega)
                obtain ⟨hksq, hkct, hkof, hkdr, hkdl, hod⟩ := x2906
                have hq18 := f18 hT hct hkct
                have hq20 := f20 hT hdl hkdl
                refine W.know (fun hg => ?_)
                rw [hH0] at hg
                exact en_i hx hb hr hlocks hL rfl (Nat.zero_le _) (Nat.zero_le _) dX5_readStatement_75 (⟨_, (fun _ _ _ => rfl), hT, hF, hsu, Or.inl ⟨rfl, hg⟩, Or.inl ⟨rfl, _, _, _, _, _, _, _, _, _, _, _, _, _, (stm_p_o e2822 e2841 (fun g9 => c2861 g9.2) e2863 c2865 (by rw [← htw]; exact e2902)), (by omega), (by omega), (by omega), hom, ⟨hkw, hktx, hkco⟩, ⟨hksq, hkct, hkof, hkdr, hkdl, hod⟩⟩⟩)
              · refine W.know (fun hg => ?_)
                rw [hH0] at hg
                exact en_i hx hb hr hlocks hL rfl (Nat.zero_le _) (Nat.zero_le _) dX5_readStatement_75 (⟨_, (fun _ _ _ => rfl), hT, hF, hsu, Or.inl ⟨rfl, hg⟩, Or.inr ⟨rfl, _, _, (stm_p_e e2822 e2841 (fun g9 => c2861 g9.2) e2863 c2865 (by rw [← htw]; exact e2909)), x2910⟩⟩)
          · refine lv_if_eq (tgt := 76) hx hb dX5_readStatement_58 (by decide) (fun _ => ?_) (fun c9 => absurd (by decide) c9)
            refine lv_aload_n hx hb dX5_readStatement_76 rfl (lv_at hl 0 rfl) ?_
            refine va_ldcS hx hb hown (hN.s 6 rfl) dX5_readStatement_77 ?_
            refine cv_i (As := [.ref (cs 106)]) (rest := []) (b := w) ⟨hx, hb, hml, hown, hts⟩ (c_X5_isWord hT (w := w) hw (i := 6) (by decide) (by first | omega | decide | assumption) (by first | omega | decide | assumption) (by first | omega | decide | assumption) (by first | omega | decide | assumption) ⟨hkw, hktx, hkco⟩) (cwV 1 hts gX5_readStatement_X5_isWord rfl rfl rfl hdX5_isWord_v ⟨Nat.le_of_ble_eq_true rfl, Nat.le_of_ble_eq_true rfl⟩) hN hE hL (rcv6 hN hT hw.1) rfl rfl hl.1 (Nat.le_of_ble_eq_true rfl) dX5_readStatement_79 (Nat.zero_le _) (Nat.zero_le _) (fun r2911 H1 locs hL hqr2911 => ?_)
            obtain ⟨h9, hqr2911⟩ := hqr2911; replace h9 := h9.symm; subst h9
            rcases hqr2911 with ⟨rfl, e2912⟩ | ⟨rfl, e2913⟩
            · have htw := tkE_w hY (i := 6) (by decide) e2912
              have hwl := isW_lt hY (i := 6) (by decide) e2912
              rw [← htw] at hwl
              refine lv_if_eq (tgt := 133) hx hb dX5_readStatement_82 (by decide) (fun c9 => absurd c9 (by decide)) (fun _ => ?_)
              refine lv_aload_n hx hb dX5_readStatement_85 rfl (lv_at hl 0 rfl) ?_
              refine va_get (D := D) (ci := 5) (v := .ref (κ w).2.2.2) (C := RX5) (T := TX5) (N := 14) hx hb hts iX5_readStatement_5 hown hN.1 hP 1 rfl rfl 11 (by decide) (hts _ mX5_readStatement_1) (fun _ h9 => h9) rfl dX5_readStatement_86 ?_
              rcases c2860_3 with rfl | ⟨a2914, rfl, ta2914⟩
              · refine va_getN (D := D) (ci := 6) (v := .null) (C := RX6) (T := TX6) (N := 8) hx hb hts iX5_readStatement_6 hown hN.1 hP 0 rfl rfl 3 (by decide) (hN.f 44 rfl) (fun _ h9 => h9) rfl dX5_readStatement_89 ?_
                refine lv_ifnonnullN hx hb dX5_readStatement_92 ?_
                have hmg1 : (κ (κ w).2.2.2).2.2.1 ≠ 1 := (c2860_mg).resolve_right (by rintro ⟨_, h9⟩; cases h9)
                have hon : om = none ∧ cc = 0 := hom.elim (fun g9 => ⟨g9.1, g9.2.2⟩) (fun g9 => by obtain ⟨_, _, e9⟩ := g9; cases e9)
                refine lv_aload_n hx hb dX5_readStatement_95 rfl (lv_at hl 0 rfl) ?_
                refine cv_v (As := []) (rest := []) (b := w) ⟨hx, hb, hml, hown, hts⟩ (c_X5_step hT (w := w) hw (by first | omega | decide | assumption) (by first | omega | decide | assumption) (by first | omega | decide | assumption) (by first | omega | decide | assumption) (by first | omega | decide | assumption) ⟨hkw, hktx, hkco⟩) (cwV 0 hts gX5_readStatement_X5_step rfl rfl rfl hdX5_step_v ⟨Nat.le_of_ble_eq_true rfl, Nat.le_of_ble_eq_true rfl⟩) hN hE hL (rcv6 hN hT hw.1) rfl rfl hl.1 (Nat.le_of_ble_eq_true rfl) dX5_readStatement_96 (Nat.zero_le _) (Nat.zero_le _) (fun H1 locs hL hqr2915 => ?_)
                obtain ⟨hT1, hF1, hqr2915⟩ := hqr2915
                have hP : va_P D vwCl [((κ w).2.2.2, .inr (6, [.int (nI pl), .int ne, .int pa, .null, .ref ct, .ref of, .ref dr, .ref dl]))] _ := hF1.hP (hP.sub [0] rfl) (fa_c ⟨by rw [hsu.1]; decide, by rw [hsu.2]; first | decide | (simp; done) | (simp [h15a, h15b, h15c]; done) | (simp; omega)⟩ fa_n)
                have hksq := hF1.hP (va_P.cons hksq va_P.nil) (fa_c ⟨by rw [hsu.1]; decide, by rw [hsu.2]; first | decide | (simp; done) | (simp; omega)⟩ fa_n) 0 _ rfl
                have hkct := hF1.hP (va_P.cons hkct va_P.nil) (fa_c ⟨by rw [hct.1]; decide, by rw [hct.2]; first | decide | (simp; done) | (simp; omega)⟩ fa_n) 0 _ rfl
                have hkof := hF1.hP (va_P.cons hkof va_P.nil) (fa_c ⟨by rw [hof.1]; decide, by rw [hof.2]; first | decide | (simp; done) | (simp; omega)⟩ fa_n) 0 _ rfl
                have hkdr := hF1.hP (va_P.cons hkdr va_P.nil) (fa_c ⟨by rw [hdr.1]; decide, by rw [hdr.2]; first | decide | (simp; done) | (simp; omega)⟩ fa_n) 0 _ rfl
                have hkdl := hF1.hP (va_P.cons hkdl va_P.nil) (fa_c ⟨by rw [hdl.1]; decide, by rw [hdl.2]; first | decide | (simp; done) | (simp; omega)⟩ fa_n) 0 _ rfl
                have hF := hF.tr (hF1.mono (by simp))
                have hT := hT1
                have m2916 := hqr2915
                obtain ⟨z2917, hz2917⟩ : ∃ z9, z9 = skp B ((tkE B z)) := ⟨_, rfl⟩
                rw [← hz2917] at m2916
                have bz2917 : z2917 ≤ tn := by rw [hz2917]; exact run_ub hY (by decide) (by omega)
                have hzE := tkE_le hY (s := z2917) (by omega)
                obtain ⟨hkw, hktx, hkco⟩ := m2916
                have hz1b : cc ≤ z2917 := by omega
                refine lv_aload_n hx hb dX5_readStatement_99 rfl (lv_at hl 0 rfl) ?_
                refine lv_iconst (v := 0) hx hb dX5_readStatement_100 (by decide) ?_
                refine cv_i (As := [.int 0]) (rest := []) (b := w) ⟨hx, hb, hml, hown, hts⟩ (c_X5_readSum_d0 hT (w := w) hw (by first | omega | decide | assumption) (by first | omega | decide | assumption) (by first | omega | decide | assumption) (by first | omega | decide | assumption) ⟨hkw, hktx, hkco⟩ (by first | omega | decide | assumption)) (cwV 1 hts gX5_readStatement_X5_readSum rfl rfl rfl hdX5_readSum_v ⟨Nat.le_of_ble_eq_true rfl, Nat.le_of_ble_eq_true rfl⟩) hN hE hL (rcv6 hN hT hw.1) rfl rfl hl.1 (Nat.le_of_ble_eq_true rfl) dX5_readStatement_101 (Nat.zero_le _) (Nat.zero_le _) (fun r2918 H1 locs hL hqr2918 => ?_)
                obtain ⟨hT1, hF1, hqr2918⟩ := hqr2918
                have hP : va_P D vwCl [((κ w).2.2.2, .inr (6, [.int (nI pl), .int ne, .int pa, .null, .ref ct, .ref of, .ref dr, .ref dl]))] _ := hF1.hP (hP.sub [0] rfl) (fa_c ⟨by rw [hsu.1]; decide, by rw [hsu.2]; first | decide | (simp; done) | (simp [h15a, h15b, h15c]; done) | (simp; omega)⟩ fa_n)
                have hksq := hF1.hP (va_P.cons hksq va_P.nil) (fa_c ⟨by rw [hsu.1]; decide, by rw [hsu.2]; first | decide | (simp; done) | (simp; omega)⟩ fa_n) 0 _ rfl
                have hkct := hF1.hP (va_P.cons hkct va_P.nil) (fa_c ⟨by rw [hct.1]; decide, by rw [hct.2]; first | decide | (simp; done) | (simp; omega)⟩ fa_n) 0 _ rfl
                have hkof := hF1.hP (va_P.cons hkof va_P.nil) (fa_c ⟨by rw [hof.1]; decide, by rw [hof.2]; first | decide | (simp; done) | (simp; omega)⟩ fa_n) 0 _ rfl
                have hkdr := hF1.hP (va_P.cons hkdr va_P.nil) (fa_c ⟨by rw [hdr.1]; decide, by rw [hdr.2]; first | decide | (simp; done) | (simp; omega)⟩ fa_n) 0 _ rfl
                have hkdl := hF1.hP (va_P.cons hkdl va_P.nil) (fa_c ⟨by rw [hdl.1]; decide, by rw [hdl.2]; first | decide | (simp; done) | (simp; omega)⟩ fa_n) 0 _ rfl
                have hF := hF.tr (hF1.mono (by simp))
                have hT := hT1
                rcases hqr2918 with ⟨rfl, l2919, q2920, f2921, t2922, k2923, e2924, u2925, v2926, b2927, c2928, m2929⟩ | ⟨rfl, c2930, o2931, e2932, x2933⟩
                · obtain ⟨hkw, hktx, hkco⟩ := m2929
                  have hzE := tkE_le hY (s := q2920) (by omega)
                  refine lv_if_ne (tgt := 109) hx hb dX5_readStatement_104 (by decide) (fun _ => ?_) (fun c9 => absurd c9 (by decide))
                  refine lv_aload_n hx hb dX5_readStatement_109 rfl (lv_at hl 0 rfl) ?_
                  obtain ⟨hb2934, e2934, hat2934, hk2934⟩ := hT.o6 hw.1
                  obtain ⟨f2934_0, f2934_2, f2934_3, f2934_4, f2934_5, f2934_6, f2934_7, f2934_8, f2934_9, f2934_10, f2934_11, f2934_12, f2934_13, rfl, c2934_1, c2934_2, c2934_3, c2934_5, c2934_10, t2934_0, t2934_9, c2934_11, c2934_p2⟩ := hk2934
                  obtain ⟨rfl, rfl, rfl, rfl, rfl, rfl, rfl, rfl, rfl, rfl, rfl, rfl, rfl⟩ := eq6 hat2934 hkw (by omega)
                  have hP : va_P D vwCl [(w, .inr (5, [.ref tx, .int (nI ((κ w).2.2.1)), .int (nI tn), .int (nI ((tkE B q2920))), .int (tkK B q2920), .int (nI q2920), .int (tkV B q2920), .int t2922, .int k2923, .ref co, .int (nI (cc + l2919.length)), .ref (κ w).2.2.2, .int ec, .int es])), ((κ w).2.2.2, .inr (6, [.int (nI pl), .int ne, .int pa, .null, .ref ct, .ref of, .ref dr, .ref dl]))] _ := va_P.cons hat2934 hP
                  refine va_get (D := D) (ci := 5) (v := .ref (κ w).2.2.2) (C := RX5) (T := TX5) (N := 14) hx hb hts iX5_readStatement_5 hown hN.1 hP 0 rfl rfl 11 (by decide) (hts _ mX5_readStatement_1) (fun _ h9 => h9) rfl dX5_readStatement_110 ?_
                  have hb0 : B0 ≤ _ := hT.b0 hw (by decide)
                  have hB : Bx B0 D _ [(w, .inr (5, [.ref tx, .int (nI ((κ w).2.2.1)), .int (nI tn), .int (nI ((tkE B q2920))), .int (tkK B q2920), .int (nI q2920), .int (tkV B q2920), .int t2922, .int k2923, .ref co, .int (nI (cc + l2919.length)), .ref (κ w).2.2.2, .int ec, .int es])), ((κ w).2.2.2, .inr (6, [.int (nI pl), .int ne, .int pa, .null, .ref ct, .ref of, .ref dr, .ref dl]))] [] _ _ := Bx.of (fun a => (κ a).1) hL hP (fa_c hb2934 (fa_c hb2860 fa_n)) (by simp only [List.map_cons, List.map_nil, hw.1, hsu.1]; decide)
                  refine nw_o (ci := 0) (fs := [.null, .null]) (C := RX0) (T := TX0) (N := 2) hx hb hts iX5_readStatement_0 tyX0 tyX0_ok hown (hts _ mX5_readStatement_2) (hts _ mX5_readStatement_3) (hts _ mX5_readStatement_4) hN rfl dfl0 (show 0 + 1 ≤ 3 by omega) (show 0 + 2 ≤ 618 by omega) dX5_readStatement_113 (fun q2935 H heq2935 hzq2935 hoq2935 hatq2935 => ?_)
                  have hgeq2935 : _ ≤ q2935 := Nat.le_trans hB.2.2.1 (Nat.le_of_eq heq2935.symm)
                  have hbq2935 : B0 ≤ q2935 := Nat.le_trans hb0 hgeq2935
                  have hfq2935 : (κ q2935).1 = 0 := hT.fresh hgeq2935
                  have hB := hB.nw heq2935 hzq2935 hoq2935 hatq2935 hb0
                  have hB : Bx B0 D _ [(w, .inr (5, [.ref tx, .int (nI ((κ w).2.2.1)), .int (nI tn), .int (nI ((tkE B q2920))), .int (tkK B q2920), .int (nI q2920), .int (tkV B q2920), .int t2922, .int k2923, .ref co, .int (nI (cc + l2919.length)), .ref (κ w).2.2.2, .int ec, .int es])), ((κ w).2.2.2, .inr (6, [.int (nI pl), .int ne, .int pa, .null, .ref ct, .ref of, .ref dr, .ref dl])), (q2935, .inr (0, [.null, .null]))] [] _ _ := hB
                  refine lv_dup hx hb dX5_readStatement_116 rfl ?_
                  refine lv_aload_n hx hb dX5_readStatement_117 rfl (lv_at hl 0 rfl) ?_
                  refine va_get (D := D) (ci := 5) (v := .ref co) (C := RX5) (T := TX5) (N := 14) hx hb hts iX5_readStatement_5 hown hN.1 hB.1 0 rfl rfl 9 (by decide) (hts _ mX5_readStatement_5) (fun _ h9 => h9) rfl dX5_readStatement_118 ?_
                  refine lv_aload_n hx hb dX5_readStatement_121 rfl (lv_at hl 0 rfl) ?_
                  refine va_get (D := D) (ci := 5) (v := .int (nI (cc + l2919.length))) (C := RX5) (T := TX5) (N := 14) hx hb hts iX5_readStatement_5 hown hN.1 hB.1 0 rfl rfl 10 (by decide) (hts _ mX5_readStatement_6) (fun _ h9 => h9) rfl dX5_readStatement_122 ?_
                  have hT : WT B0 D cs T κ _ := hT.close hB trivial
                  have hF : Fr B0 [10, 11] κ H0 _ := hF.close hB fa_n
                  have hL : OkL B0 _ := hB.2.2.2.2.2
                  have hP : va_P D vwCl [(w, .inr (5, [.ref tx, .int (nI ((κ w).2.2.1)), .int (nI tn), .int (nI ((tkE B q2920))), .int (tkK B q2920), .int (nI q2920), .int (tkV B q2920), .int t2922, .int k2923, .ref co, .int (nI (cc + l2919.length)), .ref (κ w).2.2.2, .int ec, .int es])), ((κ w).2.2.2, .inr (6, [.int (nI pl), .int ne, .int pa, .null, .ref ct, .ref of, .ref dr, .ref dl])), (q2935, .inr (0, [.null, .null]))] _ := hB.1
                  have hksq : va_at D vwCl ((κ w).2.2.2, .inr (6, [.int (nI pl), .int ne, .int pa, .null, .ref ct, .ref of, .ref dr, .ref dl])) _ := hP 1 _ rfl
                  have hkct := hkct.kept (hB.2.2.2.1 _ hkct.lt (by simp))
                  have hkof := hkof.kept (hB.2.2.2.1 _ hkof.lt (by simp))
                  have hkdr := hkdr.kept (hB.2.2.2.1 _ hkdr.lt (by simp))
                  have hkdl := hkdl.kept (hB.2.2.2.1 _ hkdl.lt (by simp))
                  have hkw : va_at D vwCl (w, .inr (5, [.ref tx, .int (nI ((κ w).2.2.1)), .int (nI tn), .int (nI ((tkE B q2920))), .int (tkK B q2920), .int (nI q2920), .int (tkV B q2920), .int t2922, .int k2923, .ref co, .int (nI (cc + l2919.length)), .ref (κ w).2.2.2, .int ec, .int es])) _ := hP 0 _ rfl
                  have hktx := hktx.kept (hB.2.2.2.1 _ hktx.lt (by simp))
                  have hkco := hkco.kept (hB.2.2.2.1 _ hkco.lt (by simp))
                  refine ci_v (As := [.ref co, .int (nI (cc + l2919.length))]) (rest := [.ref q2935, .ref (κ w).2.2.2]) (b := q2935) ⟨hx, hb, hml, hown, hts⟩ (c_X0_init hT (w := q2935) hfq2935 hbq2935 (hP 2 _ rfl) (v := co) t2934_9 (n := (cc + l2919.length)) (by first | omega | decide | assumption)) (cwI 2 hts gX5_readStatement_X0_init rfl rfl rfl (hts _ mX5_readStatement_4) (hts _ mX5_readStatement_156) (hts _ mX5_readStatement_157) rfl hdX0_init_o ⟨Nat.le_of_ble_eq_true rfl, Nat.le_of_ble_eq_true rfl⟩) hN hE hL rfl rfl hl.1 (Nat.le_of_ble_eq_true rfl) dX5_readStatement_125 (show 1 + 2 ≤ 3 by omega) (show (0 + 2) + 616 ≤ 618 by omega) (fun H1 locs hL hqr2936 => ?_)
                  obtain ⟨κr2936, hxr2936, hT1, hF1, hqr2936⟩ := hqr2936
                  have hksq := hF1.hP (va_P.cons hksq va_P.nil) (fa_c ⟨by rw [hsu.1]; decide, by rw [hsu.2]; first | decide | (simp; done) | (simp; omega)⟩ fa_n) 0 _ rfl
                  have hkct := hF1.hP (va_P.cons hkct va_P.nil) (fa_c ⟨by rw [hct.1]; decide, by rw [hct.2]; first | decide | (simp; done) | (simp; omega)⟩ fa_n) 0 _ rfl
                  have hkof := hF1.hP (va_P.cons hkof va_P.nil) (fa_c ⟨by rw [hof.1]; decide, by rw [hof.2]; first | decide | (simp; done) | (simp; omega)⟩ fa_n) 0 _ rfl
                  have hkdr := hF1.hP (va_P.cons hkdr va_P.nil) (fa_c ⟨by rw [hdr.1]; decide, by rw [hdr.2]; first | decide | (simp; done) | (simp; omega)⟩ fa_n) 0 _ rfl
                  have hkdl := hF1.hP (va_P.cons hkdl va_P.nil) (fa_c ⟨by rw [hdl.1]; decide, by rw [hdl.2]; first | decide | (simp; done) | (simp; omega)⟩ fa_n) 0 _ rfl
                  have hkw := hF1.hP (va_P.cons hkw va_P.nil) (fa_c ⟨by rw [hw.1]; decide, by rw [hw.2]; first | decide | (simp; done) | (simp; omega)⟩ fa_n) 0 _ rfl
                  have hktx := hF1.hP (va_P.cons hktx va_P.nil) (fa_c ⟨by rw [htx.1]; decide, by rw [htx.2]; first | decide | (simp; done) | (simp; omega)⟩ fa_n) 0 _ rfl
                  have hkco := hF1.hP (va_P.cons hkco va_P.nil) (fa_c ⟨by rw [hco.1]; decide, by rw [hco.2]; first | decide | (simp; done) | (simp; omega)⟩ fa_n) 0 _ rfl
                  have hF := hF.tr (hF1.mono (by simp))
                  have hT := hT1
                  have hKF : KF κ κr2936 := hxr2936.f
                  have hKX : KX κ κr2936 := hxr2936
                  have hw := (hxr2936.f.t2 hw (by decide))
                  have hsu := (hxr2936.f.t2 hsu (by decide))
                  have htx := (hxr2936.f.t2 htx (by decide))
                  have hco := (hxr2936.f.t2 hco (by decide))
                  have hct := (hxr2936.f.t2 hct (by decide))
                  have hof := (hxr2936.f.t2 hof (by decide))
                  have hdr := (hxr2936.f.t2 hdr (by decide))
                  have hdl := (hxr2936.f.t2 hdl (by decide))
                  have hq2935 := hqr2936
                  obtain ⟨hb2937, e2937, hat2937, hk2937⟩ := hT.o7 hsu.1
                  obtain ⟨f2937_0, f2937_1, f2937_2, f2937_3, f2937_4, f2937_5, f2937_6, f2937_7, rfl, c2937_0, c2937_3, c2937_mg, t2937_4, t2937_5, t2937_6, t2937_7⟩ := hk2937
                  rw [hsu.2] at t2937_4
                  rw [hsu.2] at t2937_5
                  rw [hsu.2] at t2937_6
                  rw [hsu.2] at t2937_7
                  obtain ⟨rfl, rfl, rfl, rfl, rfl, rfl, rfl, rfl⟩ := eq7 hat2937 hksq (by omega)
                  have hP : va_P D vwCl [((κ w).2.2.2, .inr (6, [.int (nI pl), .int ne, .int pa, .null, .ref ct, .ref of, .ref dr, .ref dl]))] _ := va_P.cons hat2937 va_P.nil
                  have hB : Bx B0 D _ [((κ w).2.2.2, .inr (6, [.int (nI pl), .int ne, .int pa, .null, .ref ct, .ref of, .ref dr, .ref dl]))] [] _ _ := Bx.of (fun a => (κr2936 a).1) hL hP (fa_c hb2937 fa_n) (by simp only [List.map_cons, List.map_nil, hsu.1]; decide)
                  refine b_putN (D := D) (ci := 6) (v := .ref q2935) (ty := .object "OneBeat$Formula") (C := RX6) (T := TX6) (N := 8) hx hb hts iX5_readStatement_6 tyX6 tyX6_ok nmX6 hown hN hB 0 rfl rfl 3 (by decide) (hN.f 44 rfl) (fun _ h9 => h9) rfl (by decide +kernel) rfl rfl (Nat.le_of_ble_eq_true rfl) (.inl rfl) dX5_readStatement_128 (fun H locs hB => ?_)
                  have hB : Bx B0 D _ [((κ w).2.2.2, .inr (6, [.int (nI pl), .int ne, .int pa, .ref q2935, .ref ct, .ref of, .ref dr, .ref dl]))] [(κ w).2.2.2] _ _ := hB
                  refine lv_iconst (v := 1) hx hb dX5_readStatement_131 (by decide) ?_
                  have hF : Fr B0 [10, 11] κ H0 _ := hF.closeN hB (fa_c (fun h9 => by rw [← (hKF _ h9).2, hsu.2]; simp) fa_n)
                  have hT : WT B0 D cs T (kp κr2936 (κ w).2.2.2 1 0) _ := hT.closeK (κ w).2.2.2 1 0 hB (by rw [hsu.1]; decide) (by rw [hsu.1]; decide) (List.mem_of_getElem? (i := 0) rfl) ⟨⟨0, _, rfl, kp_ok (ok_7 (k := ((κr2936 (κ w).2.2.2).1, (κr2936 (κ w).2.2.2).2.1, _, _)) hsu.1 ⟨_, _, _, _, _, _, _, _, rfl, (by omega), (Or.inr ⟨_, rfl, (t2kp hq2935)⟩), (Or.inr ⟨_, rfl⟩), ⟨(t2kp t2937_4).1, by rw [hsu.2]; exact (t2kp t2937_4).2⟩, ⟨(t2kp t2937_5).1, by rw [hsu.2]; exact (t2kp t2937_5).2⟩, ⟨(t2kp t2937_6).1, by rw [hsu.2]; exact (t2kp t2937_6).2⟩, ⟨(t2kp t2937_7).1, by rw [hsu.2]; exact (t2kp t2937_7).2⟩⟩)⟩, trivial⟩
                  have hL : OkL B0 _ := hB.2.2.2.2.2
                  have hP : va_P D vwCl [((κ w).2.2.2, .inr (6, [.int (nI pl), .int ne, .int pa, .ref q2935, .ref ct, .ref of, .ref dr, .ref dl]))] _ := hB.1
                  have hksq : va_at D vwCl ((κ w).2.2.2, .inr (6, [.int (nI pl), .int ne, .int pa, .ref q2935, .ref ct, .ref of, .ref dr, .ref dl])) _ := hP 0 _ rfl
                  have hkct := hkct.kept (hB.2.2.2.1 _ hkct.lt (by simp only [List.mem_cons, List.not_mem_nil, or_false, not_or]; exact ne_c hct.1 hsu.1 (by decide)))
                  have hkof := hkof.kept (hB.2.2.2.1 _ hkof.lt (by simp only [List.mem_cons, List.not_mem_nil, or_false, not_or]; exact ne_c hof.1 hsu.1 (by decide)))
                  have hkdr := hkdr.kept (hB.2.2.2.1 _ hkdr.lt (by simp only [List.mem_cons, List.not_mem_nil, or_false, not_or]; exact ne_c hdr.1 hsu.1 (by decide)))
                  have hkdl := hkdl.kept (hB.2.2.2.1 _ hkdl.lt (by simp only [List.mem_cons, List.not_mem_nil, or_false, not_or]; exact ne_c hdl.1 hsu.1 (by decide)))
                  have hkw := hkw.kept (hB.2.2.2.1 _ hkw.lt (by simp only [List.mem_cons, List.not_mem_nil, or_false, not_or]; exact ne_c hw.1 hsu.1 (by decide)))
                  have hktx := hktx.kept (hB.2.2.2.1 _ hktx.lt (by simp only [List.mem_cons, List.not_mem_nil, or_false, not_or]; exact ne_c htx.1 hsu.1 (by decide)))
                  have hkco := hkco.kept (hB.2.2.2.1 _ hkco.lt (by simp only [List.mem_cons, List.not_mem_nil, or_false, not_or]; exact ne_c hco.1 hsu.1 (by decide)))
                  have hsu := t2kp (x := 1) (y := 0) (a := (κ w).2.2.2) hsu
                  refine W.know (fun hg => ?_)
                  rw [hH0] at hg
                  exact en_i hx hb hr hlocks hL rfl (show 3 ≤ 3 by omega) (show ((0 + 2) + 616) ≤ 618 by omega) dX5_readStatement_132 (⟨_, (fun a h1 h2 => (kp_n h2).trans (hKX a h1)), hT, hF, hsu, Or.inr ⟨hmg1, by rw [kp_a], hg.mono (by omega) (by omega)⟩, Or.inl ⟨rfl, _, _, _, _, _, _, _, _, _, _, _, _, _, (stm_m_o e2822 e2841 (fun g9 => c2861 g9.2) (fun g9 => e2864 g9.1) e2912 hon.1 (by rw [← htw, ← hz2917]; exact e2924)), (by omega), (by omega), (by omega), Or.inr ⟨(fun g9 => by cases g9), _, rfl⟩, ⟨hkw, hktx, hkco⟩, ⟨hksq, hkct, hkof, hkdr, hkdl, hod⟩⟩⟩)
                · refine lv_if_ne (tgt := 109) hx hb dX5_readStatement_104 (by decide) (fun c9 => absurd (by decide) c9) (fun _ => ?_)
                  refine lv_iconst (v := 0) hx hb dX5_readStatement_107 (by decide) ?_
                  refine W.know (fun hg => ?_)
                  rw [hH0] at hg
                  exact en_i hx hb hr hlocks hL rfl (Nat.zero_le _) (Nat.zero_le _) dX5_readStatement_108 (⟨_, (fun _ _ _ => rfl), hT, hF, hsu, Or.inl ⟨rfl, hg⟩, Or.inr ⟨rfl, _, _, (stm_m_e e2822 e2841 (fun g9 => c2861 g9.2) (fun g9 => e2864 g9.1) e2912 hon.1 (by rw [← htw, ← hz2917]; exact e2932)), x2933⟩⟩)
              · refine va_getN (D := D) (ci := 6) (v := .ref a2914) (C := RX6) (T := TX6) (N := 8) hx hb hts iX5_readStatement_6 hown hN.1 hP 0 rfl rfl 3 (by decide) (hN.f 44 rfl) (fun _ h9 => h9) rfl dX5_readStatement_89 ?_
                refine lv_ifnonnull (tgt := 133) hx hb dX5_readStatement_92 (by decide) ?_
                have hon : ¬ om = none := hom.elim (fun g9 => absurd g9.2.1 (by simp)) (fun g9 => g9.1)
                refine lv_aload_n hx hb dX5_readStatement_133 rfl (lv_at hl 0 rfl) ?_
                refine lv_bipush (v := (-2)) hx hb dX5_readStatement_134 (by decide) ?_
                refine lv_aload_n hx hb dX5_readStatement_136 rfl (lv_at hl 0 rfl) ?_
                refine va_get (D := D) (ci := 5) (v := .int (nI z)) (C := RX5) (T := TX5) (N := 14) hx hb hts iX5_readStatement_5 hown hN.1 hP 1 rfl rfl 5 (by decide) (hts _ mX5_readStatement_7) (fun _ h9 => h9) rfl dX5_readStatement_137 ?_
                refine cv_i (As := [.int (-2), .int (nI z)]) (rest := []) (b := w) ⟨hx, hb, hml, hown, hts⟩ (c_X5_fail hT (w := w) hw (x := (-2)) (y := (nI z)) (by first | omega | decide | assumption) (by first | omega | decide | assumption) (by first | omega | decide | assumption) (by first | omega | decide | assumption) (by first | omega | decide | assumption) ⟨hkw, hktx, hkco⟩) (cwV 2 hts gX5_readStatement_X5_fail rfl rfl rfl hdX5_fail_v ⟨Nat.le_of_ble_eq_true rfl, Nat.le_of_ble_eq_true rfl⟩) hN hE hL (rcv6 hN hT hw.1) rfl rfl hl.1 (Nat.le_of_ble_eq_true rfl) dX5_readStatement_140 (Nat.zero_le _) (Nat.zero_le _) (fun r2938 H1 locs hL hqr2938 => ?_)
                obtain ⟨hT1, hF1, hqr2938⟩ := hqr2938
                have hP : va_P D vwCl [((κ w).2.2.2, .inr (6, [.int (nI pl), .int ne, .int pa, .ref a2914, .ref ct, .ref of, .ref dr, .ref dl]))] _ := hF1.hP (hP.sub [0] rfl) (fa_c ⟨by rw [hsu.1]; decide, by rw [hsu.2]; first | decide | (simp; done) | (simp [h15a, h15b, h15c]; done) | (simp; omega)⟩ fa_n)
                have hksq := hF1.hP (va_P.cons hksq va_P.nil) (fa_c ⟨by rw [hsu.1]; decide, by rw [hsu.2]; first | decide | (simp; done) | (simp; omega)⟩ fa_n) 0 _ rfl
                have hkct := hF1.hP (va_P.cons hkct va_P.nil) (fa_c ⟨by rw [hct.1]; decide, by rw [hct.2]; first | decide | (simp; done) | (simp; omega)⟩ fa_n) 0 _ rfl
                have hkof := hF1.hP (va_P.cons hkof va_P.nil) (fa_c ⟨by rw [hof.1]; decide, by rw [hof.2]; first | decide | (simp; done) | (simp; omega)⟩ fa_n) 0 _ rfl
                have hkdr := hF1.hP (va_P.cons hkdr va_P.nil) (fa_c ⟨by rw [hdr.1]; decide, by rw [hdr.2]; first | decide | (simp; done) | (simp; omega)⟩ fa_n) 0 _ rfl
                have hkdl := hF1.hP (va_P.cons hkdl va_P.nil) (fa_c ⟨by rw [hdl.1]; decide, by rw [hdl.2]; first | decide | (simp; done) | (simp; omega)⟩ fa_n) 0 _ rfl
                have hF := hF.tr (hF1.mono (by simp))
                have hT := hT1
                obtain ⟨rfl, m2939⟩ := hqr2938
                obtain ⟨hkw, hktx, hkco⟩ := m2939
                refine W.know (fun hg => ?_)
                rw [hH0] at hg
                exact en_i hx hb hr hlocks hL rfl (Nat.zero_le _) (Nat.zero_le _) dX5_readStatement_143 (⟨_, (fun _ _ _ => rfl), hT, hF, hsu, Or.inl ⟨rfl, hg⟩, Or.inr ⟨rfl, _, _, (stm_0 e2822 e2841 (fun g9 => c2861 g9.2) (fun g9 => e2864 g9.1) (fun g9 => hon g9.2)), ⟨_, _, _, _, _, _, _, _, (by omega), (by omega), (by omega), hkw, hktx, hkco⟩⟩⟩)
            · refine lv_if_eq (tgt := 133) hx hb dX5_readStatement_82 (by decide) (fun _ => ?_) (fun c9 => absurd (by decide) c9)
              refine lv_aload_n hx hb dX5_readStatement_133 rfl (lv_at hl 0 rfl) ?_
              refine lv_bipush (v := (-2)) hx hb dX5_readStatement_134 (by decide) ?_
              refine lv_aload_n hx hb dX5_readStatement_136 rfl (lv_at hl 0 rfl) ?_
              refine va_get (D := D) (ci := 5) (v := .int (nI z)) (C := RX5) (T := TX5) (N := 14) hx hb hts iX5_readStatement_5 hown hN.1 hP 1 rfl rfl 5 (by decide) (hts _ mX5_readStatement_7) (fun _ h9 => h9) rfl dX5_readStatement_137 ?_
              refine cv_i (As := [.int (-2), .int (nI z)]) (rest := []) (b := w) ⟨hx, hb, hml, hown, hts⟩ (c_X5_fail hT (w := w) hw (x := (-2)) (y := (nI z)) (by first | omega | decide | assumption) (by first | omega | decide | assumption) (by first | omega | decide | assumption) (by first | omega | decide | assumption) (by first | omega | decide | assumption) ⟨hkw, hktx, hkco⟩) (cwV 2 hts gX5_readStatement_X5_fail rfl rfl rfl hdX5_fail_v ⟨Nat.le_of_ble_eq_true rfl, Nat.le_of_ble_eq_true rfl⟩) hN hE hL (rcv6 hN hT hw.1) rfl rfl hl.1 (Nat.le_of_ble_eq_true rfl) dX5_readStatement_140 (Nat.zero_le _) (Nat.zero_le _) (fun r2940 H1 locs hL hqr2940 => ?_)
              obtain ⟨hT1, hF1, hqr2940⟩ := hqr2940
              have hP : va_P D vwCl [((κ w).2.2.2, .inr (6, [.int (nI pl), .int ne, .int pa, mg, .ref ct, .ref of, .ref dr, .ref dl]))] _ := hF1.hP (hP.sub [0] rfl) (fa_c ⟨by rw [hsu.1]; decide, by rw [hsu.2]; first | decide | (simp; done) | (simp [h15a, h15b, h15c]; done) | (simp; omega)⟩ fa_n)
              have hksq := hF1.hP (va_P.cons hksq va_P.nil) (fa_c ⟨by rw [hsu.1]; decide, by rw [hsu.2]; first | decide | (simp; done) | (simp; omega)⟩ fa_n) 0 _ rfl
              have hkct := hF1.hP (va_P.cons hkct va_P.nil) (fa_c ⟨by rw [hct.1]; decide, by rw [hct.2]; first | decide | (simp; done) | (simp; omega)⟩ fa_n) 0 _ rfl
              have hkof := hF1.hP (va_P.cons hkof va_P.nil) (fa_c ⟨by rw [hof.1]; decide, by rw [hof.2]; first | decide | (simp; done) | (simp; omega)⟩ fa_n) 0 _ rfl
              have hkdr := hF1.hP (va_P.cons hkdr va_P.nil) (fa_c ⟨by rw [hdr.1]; decide, by rw [hdr.2]; first | decide | (simp; done) | (simp; omega)⟩ fa_n) 0 _ rfl
              have hkdl := hF1.hP (va_P.cons hkdl va_P.nil) (fa_c ⟨by rw [hdl.1]; decide, by rw [hdl.2]; first | decide | (simp; done) | (simp; omega)⟩ fa_n) 0 _ rfl
              have hF := hF.tr (hF1.mono (by simp))
              have hT := hT1
              obtain ⟨rfl, m2941⟩ := hqr2940
              obtain ⟨hkw, hktx, hkco⟩ := m2941
              refine W.know (fun hg => ?_)
              rw [hH0] at hg
              exact en_i hx hb hr hlocks hL rfl (Nat.zero_le _) (Nat.zero_le _) dX5_readStatement_143 (⟨_, (fun _ _ _ => rfl), hT, hF, hsu, Or.inl ⟨rfl, hg⟩, Or.inr ⟨rfl, _, _, (stm_0 e2822 e2841 (fun g9 => c2861 g9.2) (fun g9 => e2864 g9.1) (fun g9 => e2913 g9.1)), ⟨_, _, _, _, _, _, _, _, (by omega), (by omega), (by omega), hkw, hktx, hkco⟩⟩⟩)
        · refine lv_aload_n hx hb dX5_readStatement_47 rfl (lv_at hl 0 rfl) ?_
          refine cv_i (As := []) (rest := []) (b := w) ⟨hx, hb, hml, hown, hts⟩ (c_X5_readNeed hT (w := w) hw (by first | omega | decide | assumption) (by first | omega | decide | assumption) (by first | omega | decide | assumption) (by first | omega | decide | assumption) (by first | omega | decide | assumption) ⟨hksq, hkct, hkof, hkdr, hkdl, hod⟩ (by first | omega | decide | assumption) ⟨hkw, hktx, hkco⟩) (cwV 0 hts gX5_readStatement_X5_readNeed rfl rfl rfl hdX5_readNeed_v ⟨Nat.le_of_ble_eq_true rfl, Nat.le_of_ble_eq_true rfl⟩) hN hE hL (rcv6 hN hT hw.1) rfl rfl hl.1 (Nat.le_of_ble_eq_true rfl) dX5_readStatement_48 (Nat.zero_le _) (Nat.zero_le _) (fun r2942 H1 locs hL hqr2942 => ?_)
          obtain ⟨hT1, hF1, hqr2942⟩ := hqr2942
          have hF := hF.tr (hF1.mono (by simp))
          have hT := hT1
          rcases hqr2942 with ⟨rfl, v12943, q2944, t2945, k2946, e2947, u2948, v2949, m2950, x2951⟩ | ⟨rfl, c2952, o2953, e2954, x2955⟩
          · obtain ⟨hkw, hktx, hkco⟩ := m2950
            have hzE := tkE_le hY (s := q2944) (by omega)
            obtain ⟨hksq, hkct, hkof, hkdr, hkdl, hod⟩ := x2951
            have hq18 := f18 hT hct hkct
            have hq20 := f20 hT hdl hkdl
            refine W.know (fun hg => ?_)
            rw [hH0] at hg
            exact en_i hx hb hr hlocks hL rfl (Nat.zero_le _) (Nat.zero_le _) dX5_readStatement_51 (⟨_, (fun _ _ _ => rfl), hT, hF, hsu, Or.inl ⟨rfl, hg⟩, Or.inl ⟨rfl, _, _, _, _, _, _, _, _, _, _, _, _, _, (stm_n_o e2822 e2841 e2857 c2861 (by rw [← htw]; exact e2947)), (by omega), (by omega), (by omega), hom, ⟨hkw, hktx, hkco⟩, ⟨hksq, hkct, hkof, hkdr, hkdl, hod⟩⟩⟩)
          · refine W.know (fun hg => ?_)
            rw [hH0] at hg
            exact en_i hx hb hr hlocks hL rfl (Nat.zero_le _) (Nat.zero_le _) dX5_readStatement_51 (⟨_, (fun _ _ _ => rfl), hT, hF, hsu, Or.inl ⟨rfl, hg⟩, Or.inr ⟨rfl, _, _, (stm_n_e e2822 e2841 e2857 c2861 (by rw [← htw]; exact e2954)), x2955⟩⟩)
      · refine lv_if_eq (tgt := 52) hx hb dX5_readStatement_34 (by decide) (fun _ => ?_) (fun c9 => absurd (by decide) c9)
        refine lv_aload_n hx hb dX5_readStatement_52 rfl (lv_at hl 0 rfl) ?_
        refine va_ldcS hx hb hown (hN.s 5 rfl) dX5_readStatement_53 ?_
        refine cv_i (As := [.ref (cs 105)]) (rest := []) (b := w) ⟨hx, hb, hml, hown, hts⟩ (c_X5_isWord hT (w := w) hw (i := 5) (by decide) (by first | omega | decide | assumption) (by first | omega | decide | assumption) (by first | omega | decide | assumption) (by first | omega | decide | assumption) ⟨hkw, hktx, hkco⟩) (cwV 1 hts gX5_readStatement_X5_isWord rfl rfl rfl hdX5_isWord_v ⟨Nat.le_of_ble_eq_true rfl, Nat.le_of_ble_eq_true rfl⟩) hN hE hL (rcv6 hN hT hw.1) rfl rfl hl.1 (Nat.le_of_ble_eq_true rfl) dX5_readStatement_55 (Nat.zero_le _) (Nat.zero_le _) (fun r2956 H1 locs hL hqr2956 => ?_)
        obtain ⟨h9, hqr2956⟩ := hqr2956; replace h9 := h9.symm; subst h9
        rcases hqr2956 with ⟨rfl, e2957⟩ | ⟨rfl, e2958⟩
        · have htw := tkE_w hY (i := 5) (by decide) e2957
          have hwl := isW_lt hY (i := 5) (by decide) e2957
          rw [← htw] at hwl
          refine lv_if_eq (tgt := 76) hx hb dX5_readStatement_58 (by decide) (fun c9 => absurd c9 (by decide)) (fun _ => ?_)
          refine lv_aload_n hx hb dX5_readStatement_61 rfl (lv_at hl 0 rfl) ?_
          obtain ⟨hb2959, e2959, hat2959, hk2959⟩ := hT.o6 hw.1
          obtain ⟨f2959_0, f2959_2, f2959_3, f2959_4, f2959_5, f2959_6, f2959_7, f2959_8, f2959_9, f2959_10, f2959_11, f2959_12, f2959_13, rfl, c2959_1, c2959_2, c2959_3, c2959_5, c2959_10, t2959_0, t2959_9, c2959_11, c2959_p2⟩ := hk2959
          obtain ⟨rfl, rfl, rfl, rfl, rfl, rfl, rfl, rfl, rfl, rfl, rfl, rfl, rfl⟩ := eq6 hat2959 hkw (by omega)
          have hP : va_P D vwCl [(w, .inr (5, [.ref tx, .int (nI ((κ w).2.2.1)), .int (nI tn), .int (nI ((tkE B z))), .int (tkK B z), .int (nI z), .int (tkV B z), .int ta, .int tk, .ref co, .int (nI cc), .ref (κ w).2.2.2, .int ec, .int es]))] _ := va_P.cons hat2959 va_P.nil
          refine va_get (D := D) (ci := 5) (v := .ref (κ w).2.2.2) (C := RX5) (T := TX5) (N := 14) hx hb hts iX5_readStatement_5 hown hN.1 hP 0 rfl rfl 11 (by decide) (hts _ mX5_readStatement_1) (fun _ h9 => h9) rfl dX5_readStatement_62 ?_
          obtain ⟨hb2960, e2960, hat2960, hk2960⟩ := hT.o7 hsu.1
          obtain ⟨f2960_0, f2960_1, f2960_2, f2960_3, f2960_4, f2960_5, f2960_6, f2960_7, rfl, c2960_0, c2960_3, c2960_mg, t2960_4, t2960_5, t2960_6, t2960_7⟩ := hk2960
          rw [hsu.2] at t2960_4
          rw [hsu.2] at t2960_5
          rw [hsu.2] at t2960_6
          rw [hsu.2] at t2960_7
          obtain ⟨rfl, rfl, rfl, rfl, rfl, rfl, rfl, rfl⟩ := eq7 hat2960 hksq (by omega)
          have hP : va_P D vwCl [((κ w).2.2.2, .inr (6, [.int (nI pl), .int ne, .int pa, mg, .ref ct, .ref of, .ref dr, .ref dl])), (w, .inr (5, [.ref tx, .int (nI ((κ w).2.2.1)), .int (nI tn), .int (nI ((tkE B z))), .int (tkK B z), .int (nI z), .int (tkV B z), .int ta, .int tk, .ref co, .int (nI cc), .ref (κ w).2.2.2, .int ec, .int es]))] _ := va_P.cons hat2960 hP
          refine va_getN (D := D) (ci := 6) (v := .int pa) (C := RX6) (T := TX6) (N := 8) hx hb hts iX5_readStatement_6 hown hN.1 hP 0 rfl rfl 2 (by decide) (hN.f 42 rfl) (fun _ h9 => h9) rfl dX5_readStatement_65 ?_
          refine lv_if_ne (tgt := 76) hx hb dX5_readStatement_68 (by decide) (fun c2961 => ?_) (fun c2961 => ?_)
          · refine lv_aload_n hx hb dX5_readStatement_76 rfl (lv_at hl 0 rfl) ?_
            refine va_ldcS hx hb hown (hN.s 6 rfl) dX5_readStatement_77 ?_
            refine cv_i (As := [.ref (cs 106)]) (rest := []) (b := w) ⟨hx, hb, hml, hown, hts⟩ (c_X5_isWord hT (w := w) hw (i := 6) (by decide) (by first | omega | decide | assumption) (by first | omega | decide | assumption) (by first | omega | decide | assumption) (by first | omega | decide | assumption) ⟨hkw, hktx, hkco⟩) (cwV 1 hts gX5_readStatement_X5_isWord rfl rfl rfl hdX5_isWord_v ⟨Nat.le_of_ble_eq_true rfl, Nat.le_of_ble_eq_true rfl⟩) hN hE hL (rcv6 hN hT hw.1) rfl rfl hl.1 (Nat.le_of_ble_eq_true rfl) dX5_readStatement_79 (Nat.zero_le _) (Nat.zero_le _) (fun r2962 H1 locs hL hqr2962 => ?_)
            obtain ⟨h9, hqr2962⟩ := hqr2962; replace h9 := h9.symm; subst h9
            rcases hqr2962 with ⟨rfl, e2963⟩ | ⟨rfl, e2964⟩
            · have htw := tkE_w hY (i := 6) (by decide) e2963
              have hwl := isW_lt hY (i := 6) (by decide) e2963
              rw [← htw] at hwl
              refine lv_if_eq (tgt := 133) hx hb dX5_readStatement_82 (by decide) (fun c9 => absurd c9 (by decide)) (fun _ => ?_)
              refine lv_aload_n hx hb dX5_readStatement_85 rfl (lv_at hl 0 rfl) ?_
              refine va_get (D := D) (ci := 5) (v := .ref (κ w).2.2.2) (C := RX5) (T := TX5) (N := 14) hx hb hts iX5_readStatement_5 hown hN.1 hP 1 rfl rfl 11 (by decide) (hts _ mX5_readStatement_1) (fun _ h9 => h9) rfl dX5_readStatement_86 ?_
              rcases c2960_3 with rfl | ⟨a2965, rfl, ta2965⟩
              · refine va_getN (D := D) (ci := 6) (v := .null) (C := RX6) (T := TX6) (N := 8) hx hb hts iX5_readStatement_6 hown hN.1 hP 0 rfl rfl 3 (by decide) (hN.f 44 rfl) (fun _ h9 => h9) rfl dX5_readStatement_89 ?_
                refine lv_ifnonnullN hx hb dX5_readStatement_92 ?_
                have hmg1 : (κ (κ w).2.2.2).2.2.1 ≠ 1 := (c2960_mg).resolve_right (by rintro ⟨_, h9⟩; cases h9)
                have hon : om = none ∧ cc = 0 := hom.elim (fun g9 => ⟨g9.1, g9.2.2⟩) (fun g9 => by obtain ⟨_, _, e9⟩ := g9; cases e9)
                refine lv_aload_n hx hb dX5_readStatement_95 rfl (lv_at hl 0 rfl) ?_
                refine cv_v (As := []) (rest := []) (b := w) ⟨hx, hb, hml, hown, hts⟩ (c_X5_step hT (w := w) hw (by first | omega | decide | assumption) (by first | omega | decide | assumption) (by first | omega | decide | assumption) (by first | omega | decide | assumption) (by first | omega | decide | assumption) ⟨hkw, hktx, hkco⟩) (cwV 0 hts gX5_readStatement_X5_step rfl rfl rfl hdX5_step_v ⟨Nat.le_of_ble_eq_true rfl, Nat.le_of_ble_eq_true rfl⟩) hN hE hL (rcv6 hN hT hw.1) rfl rfl hl.1 (Nat.le_of_ble_eq_true rfl) dX5_readStatement_96 (Nat.zero_le _) (Nat.zero_le _) (fun H1 locs hL hqr2966 => ?_)
                obtain ⟨hT1, hF1, hqr2966⟩ := hqr2966
                have hP : va_P D vwCl [((κ w).2.2.2, .inr (6, [.int (nI pl), .int ne, .int pa, .null, .ref ct, .ref of, .ref dr, .ref dl]))] _ := hF1.hP (hP.sub [0] rfl) (fa_c ⟨by rw [hsu.1]; decide, by rw [hsu.2]; first | decide | (simp; done) | (simp [h15a, h15b, h15c]; done) | (simp; omega)⟩ fa_n)
                have hksq := hF1.hP (va_P.cons hksq va_P.nil) (fa_c ⟨by rw [hsu.1]; decide, by rw [hsu.2]; first | decide | (simp; done) | (simp; omega)⟩ fa_n) 0 _ rfl
                have hkct := hF1.hP (va_P.cons hkct va_P.nil) (fa_c ⟨by rw [hct.1]; decide, by rw [hct.2]; first | decide | (simp; done) | (simp; omega)⟩ fa_n) 0 _ rfl
                have hkof := hF1.hP (va_P.cons hkof va_P.nil) (fa_c ⟨by rw [hof.1]; decide, by rw [hof.2]; first | decide | (simp; done) | (simp; omega)⟩ fa_n) 0 _ rfl
                have hkdr := hF1.hP (va_P.cons hkdr va_P.nil) (fa_c ⟨by rw [hdr.1]; decide, by rw [hdr.2]; first | decide | (simp; done) | (simp; omega)⟩ fa_n) 0 _ rfl
                have hkdl := hF1.hP (va_P.cons hkdl va_P.nil) (fa_c ⟨by rw [hdl.1]; decide, by rw [hdl.2]; first | decide | (simp; done) | (simp; omega)⟩ fa_n) 0 _ rfl
                have hF := hF.tr (hF1.mono (by simp))
                have hT := hT1
                have m2967 := hqr2966
                obtain ⟨z2968, hz2968⟩ : ∃ z9, z9 = skp B ((tkE B z)) := ⟨_, rfl⟩
                rw [← hz2968] at m2967
                have bz2968 : z2968 ≤ tn := by rw [hz2968]; exact run_ub hY (by decide) (by omega)
                have hzE := tkE_le hY (s := z2968) (by omega)
                obtain ⟨hkw, hktx, hkco⟩ := m2967
                have hz1b : cc ≤ z2968 := by omega
                refine lv_aload_n hx hb dX5_readStatement_99 rfl (lv_at hl 0 rfl) ?_
                refine lv_iconst (v := 0) hx hb dX5_readStatement_100 (by decide) ?_
                refine cv_i (As := [.int 0]) (rest := []) (b := w) ⟨hx, hb, hml, hown, hts⟩ (c_X5_readSum_d0 hT (w := w) hw (by first | omega | decide | assumption) (by first | omega | decide | assumption) (by first | omega | decide | assumption) (by first | omega | decide | assumption) ⟨hkw, hktx, hkco⟩ (by first | omega | decide | assumption)) (cwV 1 hts gX5_readStatement_X5_readSum rfl rfl rfl hdX5_readSum_v ⟨Nat.le_of_ble_eq_true rfl, Nat.le_of_ble_eq_true rfl⟩) hN hE hL (rcv6 hN hT hw.1) rfl rfl hl.1 (Nat.le_of_ble_eq_true rfl) dX5_readStatement_101 (Nat.zero_le _) (Nat.zero_le _) (fun r2969 H1 locs hL hqr2969 => ?_)
                obtain ⟨hT1, hF1, hqr2969⟩ := hqr2969
                have hP : va_P D vwCl [((κ w).2.2.2, .inr (6, [.int (nI pl), .int ne, .int pa, .null, .ref ct, .ref of, .ref dr, .ref dl]))] _ := hF1.hP (hP.sub [0] rfl) (fa_c ⟨by rw [hsu.1]; decide, by rw [hsu.2]; first | decide | (simp; done) | (simp [h15a, h15b, h15c]; done) | (simp; omega)⟩ fa_n)
                have hksq := hF1.hP (va_P.cons hksq va_P.nil) (fa_c ⟨by rw [hsu.1]; decide, by rw [hsu.2]; first | decide | (simp; done) | (simp; omega)⟩ fa_n) 0 _ rfl
                have hkct := hF1.hP (va_P.cons hkct va_P.nil) (fa_c ⟨by rw [hct.1]; decide, by rw [hct.2]; first | decide | (simp; done) | (simp; omega)⟩ fa_n) 0 _ rfl
                have hkof := hF1.hP (va_P.cons hkof va_P.nil) (fa_c ⟨by rw [hof.1]; decide, by rw [hof.2]; first | decide | (simp; done) | (simp; omega)⟩ fa_n) 0 _ rfl
                have hkdr := hF1.hP (va_P.cons hkdr va_P.nil) (fa_c ⟨by rw [hdr.1]; decide, by rw [hdr.2]; first | decide | (simp; done) | (simp; omega)⟩ fa_n) 0 _ rfl
                have hkdl := hF1.hP (va_P.cons hkdl va_P.nil) (fa_c ⟨by rw [hdl.1]; decide, by rw [hdl.2]; first | decide | (simp; done) | (simp; omega)⟩ fa_n) 0 _ rfl
                have hF := hF.tr (hF1.mono (by simp))
                have hT := hT1
                rcases hqr2969 with ⟨rfl, l2970, q2971, f2972, t2973, k2974, e2975, u2976, v2977, b2978, c2979, m2980⟩ | ⟨rfl, c2981, o2982, e2983, x2984⟩
                · obtain ⟨hkw, hktx, hkco⟩ := m2980
                  have hzE := tkE_le hY (s := q2971) (by omega)
                  refine lv_if_ne (tgt := 109) hx hb dX5_readStatement_104 (by decide) (fun _ => ?_) (fun c9 => absurd c9 (by decide))
                  refine lv_aload_n hx hb dX5_readStatement_109 rfl (lv_at hl 0 rfl) ?_
                  obtain ⟨hb2985, e2985, hat2985, hk2985⟩ := hT.o6 hw.1
                  obtain ⟨f2985_0, f2985_2, f2985_3, f2985_4, f2985_5, f2985_6, f2985_7, f2985_8, f2985_9, f2985_10, f2985_11, f2985_12, f2985_13, rfl, c2985_1, c2985_2, c2985_3, c2985_5, c2985_10, t2985_0, t2985_9, c2985_11, c2985_p2⟩ := hk2985
                  obtain ⟨rfl, rfl, rfl, rfl, rfl, rfl, rfl, rfl, rfl, rfl, rfl, rfl, rfl⟩ := eq6 hat2985 hkw (by omega)
                  have hP : va_P D vwCl [(w, .inr (5, [.ref tx, .int (nI ((κ w).2.2.1)), .int (nI tn), .int (nI ((tkE B q2971))), .int (tkK B q2971), .int (nI q2971), .int (tkV B q2971), .int t2973, .int k2974, .ref co, .int (nI (cc + l2970.length)), .ref (κ w).2.2.2, .int ec, .int es])), ((κ w).2.2.2, .inr (6, [.int (nI pl), .int ne, .int pa, .null, .ref ct, .ref of, .ref dr, .ref dl]))] _ := va_P.cons hat2985 hP
                  refine va_get (D := D) (ci := 5) (v := .ref (κ w).2.2.2) (C := RX5) (T := TX5) (N := 14) hx hb hts iX5_readStatement_5 hown hN.1 hP 0 rfl rfl 11 (by decide) (hts _ mX5_readStatement_1) (fun _ h9 => h9) rfl dX5_readStatement_110 ?_
                  have hb0 : B0 ≤ _ := hT.b0 hw (by decide)
                  have hB : Bx B0 D _ [(w, .inr (5, [.ref tx, .int (nI ((κ w).2.2.1)), .int (nI tn), .int (nI ((tkE B q2971))), .int (tkK B q2971), .int (nI q2971), .int (tkV B q2971), .int t2973, .int k2974, .ref co, .int (nI (cc + l2970.length)), .ref (κ w).2.2.2, .int ec, .int es])), ((κ w).2.2.2, .inr (6, [.int (nI pl), .int ne, .int pa, .null, .ref ct, .ref of, .ref dr, .ref dl]))] [] _ _ := Bx.of (fun a => (κ a).1) hL hP (fa_c hb2985 (fa_c hb2960 fa_n)) (by simp only [List.map_cons, List.map_nil, hw.1, hsu.1]; decide)
                  refine nw_o (ci := 0) (fs := [.null, .null]) (C := RX0) (T := TX0) (N := 2) hx hb hts iX5_readStatement_0 tyX0 tyX0_ok hown (hts _ mX5_readStatement_2) (hts _ mX5_readStatement_3) (hts _ mX5_readStatement_4) hN rfl dfl0 (show 0 + 1 ≤ 3 by omega) (show 0 + 2 ≤ 618 by omega) dX5_readStatement_113 (fun q2986 H heq2986 hzq2986 hoq2986 hatq2986 => ?_)
                  have hgeq2986 : _ ≤ q2986 := Nat.le_trans hB.2.2.1 (Nat.le_of_eq heq2986.symm)
                  have hbq2986 : B0 ≤ q2986 := Nat.le_trans hb0 hgeq2986
                  have hfq2986 : (κ q2986).1 = 0 := hT.fresh hgeq2986
                  have hB := hB.nw heq2986 hzq2986 hoq2986 hatq2986 hb0
                  have hB : Bx B0 D _ [(w, .inr (5, [.ref tx, .int (nI ((κ w).2.2.1)), .int (nI tn), .int (nI ((tkE B q2971))), .int (tkK B q2971), .int (nI q2971), .int (tkV B q2971), .int t2973, .int k2974, .ref co, .int (nI (cc + l2970.length)), .ref (κ w).2.2.2, .int ec, .int es])), ((κ w).2.2.2, .inr (6, [.int (nI pl), .int ne, .int pa, .null, .ref ct, .ref of, .ref dr, .ref dl])), (q2986, .inr (0, [.null, .null]))] [] _ _ := hB
                  refine lv_dup hx hb dX5_readStatement_116 rfl ?_
                  refine lv_aload_n hx hb dX5_readStatement_117 rfl (lv_at hl 0 rfl) ?_
                  refine va_get (D := D) (ci := 5) (v := .ref co) (C := RX5) (T := TX5) (N := 14) hx hb hts iX5_readStatement_5 hown hN.1 hB.1 0 rfl rfl 9 (by decide) (hts _ mX5_readStatement_5) (fun _ h9 => h9) rfl dX5_readStatement_118 ?_
                  refine lv_aload_n hx hb dX5_readStatement_121 rfl (lv_at hl 0 rfl) ?_
                  refine va_get (D := D) (ci := 5) (v := .int (nI (cc + l2970.length))) (C := RX5) (T := TX5) (N := 14) hx hb hts iX5_readStatement_5 hown hN.1 hB.1 0 rfl rfl 10 (by decide) (hts _ mX5_readStatement_6) (fun _ h9 => h9) rfl dX5_readStatement_122 ?_
                  have hT : WT B0 D cs T κ _ := hT.close hB trivial
                  have hF : Fr B0 [10, 11] κ H0 _ := hF.close hB fa_n
                  have hL : OkL B0 _ := hB.2.2.2.2.2
                  have hP : va_P D vwCl [(w, .inr (5, [.ref tx, .int (nI ((κ w).2.2.1)), .int (nI tn), .int (nI ((tkE B q2971))), .int (tkK B q2971), .int (nI q2971), .int (tkV B q2971), .int t2973, .int k2974, .ref co, .int (nI (cc + l2970.length)), .ref (κ w).2.2.2, .int ec, .int es])), ((κ w).2.2.2, .inr (6, [.int (nI pl), .int ne, .int pa, .null, .ref ct, .ref of, .ref dr, .ref dl])), (q2986, .inr (0, [.null, .null]))] _ := hB.1
                  have hksq : va_at D vwCl ((κ w).2.2.2, .inr (6, [.int (nI pl), .int ne, .int pa, .null, .ref ct, .ref of, .ref dr, .ref dl])) _ := hP 1 _ rfl
                  have hkct := hkct.kept (hB.2.2.2.1 _ hkct.lt (by simp))
                  have hkof := hkof.kept (hB.2.2.2.1 _ hkof.lt (by simp))
                  have hkdr := hkdr.kept (hB.2.2.2.1 _ hkdr.lt (by simp))
                  have hkdl := hkdl.kept (hB.2.2.2.1 _ hkdl.lt (by simp))
                  have hkw : va_at D vwCl (w, .inr (5, [.ref tx, .int (nI ((κ w).2.2.1)), .int (nI tn), .int (nI ((tkE B q2971))), .int (tkK B q2971), .int (nI q2971), .int (tkV B q2971), .int t2973, .int k2974, .ref co, .int (nI (cc + l2970.length)), .ref (κ w).2.2.2, .int ec, .int es])) _ := hP 0 _ rfl
                  have hktx := hktx.kept (hB.2.2.2.1 _ hktx.lt (by simp))
                  have hkco := hkco.kept (hB.2.2.2.1 _ hkco.lt (by simp))
                  refine ci_v (As := [.ref co, .int (nI (cc + l2970.length))]) (rest := [.ref q2986, .ref (κ w).2.2.2]) (b := q2986) ⟨hx, hb, hml, hown, hts⟩ (c_X0_init hT (w := q2986) hfq2986 hbq2986 (hP 2 _ rfl) (v := co) t2985_9 (n := (cc + l2970.length)) (by first | omega | decide | assumption)) (cwI 2 hts gX5_readStatement_X0_init rfl rfl rfl (hts _ mX5_readStatement_4) (hts _ mX5_readStatement_156) (hts _ mX5_readStatement_157) rfl hdX0_init_o ⟨Nat.le_of_ble_eq_true rfl, Nat.le_of_ble_eq_true rfl⟩) hN hE hL rfl rfl hl.1 (Nat.le_of_ble_eq_true rfl) dX5_readStatement_125 (show 1 + 2 ≤ 3 by omega) (show (0 + 2) + 616 ≤ 618 by omega) (fun H1 locs hL hqr2987 => ?_)
                  obtain ⟨κr2987, hxr2987, hT1, hF1, hqr2987⟩ := hqr2987
                  have hksq := hF1.hP (va_P.cons hksq va_P.nil) (fa_c ⟨by rw [hsu.1]; decide, by rw [hsu.2]; first | decide | (simp; done) | (simp; omega)⟩ fa_n) 0 _ rfl
                  have hkct := hF1.hP (va_P.cons hkct va_P.nil) (fa_c ⟨by rw [hct.1]; decide, by rw [hct.2]; first | decide | (simp; done) | (simp; omega)⟩ fa_n) 0 _ rfl
                  have hkof := hF1.hP (va_P.cons hkof va_P.nil) (fa_c ⟨by rw [hof.1]; decide, by rw [hof.2]; first | decide | (simp; done) | (simp; omega)⟩ fa_n) 0 _ rfl
                  have hkdr := hF1.hP (va_P.cons hkdr va_P.nil) (fa_c ⟨by rw [hdr.1]; decide, by rw [hdr.2]; first | decide | (simp; done) | (simp; omega)⟩ fa_n) 0 _ rfl
                  have hkdl := hF1.hP (va_P.cons hkdl va_P.nil) (fa_c ⟨by rw [hdl.1]; decide, by rw [hdl.2]; first | decide | (simp; done) | (simp; omega)⟩ fa_n) 0 _ rfl
                  have hkw := hF1.hP (va_P.cons hkw va_P.nil) (fa_c ⟨by rw [hw.1]; decide, by rw [hw.2]; first | decide | (simp; done) | (simp; omega)⟩ fa_n) 0 _ rfl
                  have hktx := hF1.hP (va_P.cons hktx va_P.nil) (fa_c ⟨by rw [htx.1]; decide, by rw [htx.2]; first | decide | (simp; done) | (simp; omega)⟩ fa_n) 0 _ rfl
                  have hkco := hF1.hP (va_P.cons hkco va_P.nil) (fa_c ⟨by rw [hco.1]; decide, by rw [hco.2]; first | decide | (simp; done) | (simp; omega)⟩ fa_n) 0 _ rfl
                  have hF := hF.tr (hF1.mono (by simp))
                  have hT := hT1
                  have hKF : KF κ κr2987 := hxr2987.f
                  have hKX : KX κ κr2987 := hxr2987
                  have hw := (hxr2987.f.t2 hw (by decide))
                  have hsu := (hxr2987.f.t2 hsu (by decide))
                  have htx := (hxr2987.f.t2 htx (by decide))
                  have hco := (hxr2987.f.t2 hco (by decide))
                  have hct := (hxr2987.f.t2 hct (by decide))
                  have hof := (hxr2987.f.t2 hof (by decide))
                  have hdr := (hxr2987.f.t2 hdr (by decide))
                  have hdl := (hxr2987.f.t2 hdl (by decide))
                  have hq2986 := hqr2987
                  obtain ⟨hb2988, e2988, hat2988, hk2988⟩ := hT.o7 hsu.1
                  obtain ⟨f2988_0, f2988_1, f2988_2, f2988_3, f2988_4, f2988_5, f2988_6, f2988_7, rfl, c2988_0, c2988_3, c2988_mg, t2988_4, t2988_5, t2988_6, t2988_7⟩ := hk2988
                  rw [hsu.2] at t2988_4
                  rw [hsu.2] at t2988_5
                  rw [hsu.2] at t2988_6
                  rw [hsu.2] at t2988_7
                  obtain ⟨rfl, rfl, rfl, rfl, rfl, rfl, rfl, rfl⟩ := eq7 hat2988 hksq (by omega)
                  have hP : va_P D vwCl [((κ w).2.2.2, .inr (6, [.int (nI pl), .int ne, .int pa, .null, .ref ct, .ref of, .ref dr, .ref dl]))] _ := va_P.cons hat2988 va_P.nil
                  have hB : Bx B0 D _ [((κ w).2.2.2, .inr (6, [.int (nI pl), .int ne, .int pa, .null, .ref ct, .ref of, .ref dr, .ref dl]))] [] _ _ := Bx.of (fun a => (κr2987 a).1) hL hP (fa_c hb2988 fa_n) (by simp only [List.map_cons, List.map_nil, hsu.1]; decide)
                  refine b_putN (D := D) (ci := 6) (v := .ref q2986) (ty := .object "OneBeat$Formula") (C := RX6) (T := TX6) (N := 8) hx hb hts iX5_readStatement_6 tyX6 tyX6_ok nmX6 hown hN hB 0 rfl rfl 3 (by decide) (hN.f 44 rfl) (fun _ h9 => h9) rfl (by decide +kernel) rfl rfl (Nat.le_of_ble_eq_true rfl) (.inl rfl) dX5_readStatement_128 (fun H locs hB => ?_)
                  have hB : Bx B0 D _ [((κ w).2.2.2, .inr (6, [.int (nI pl), .int ne, .int pa, .ref q2986, .ref ct, .ref of, .ref dr, .ref dl]))] [(κ w).2.2.2] _ _ := hB
                  refine lv_iconst (v := 1) hx hb dX5_readStatement_131 (by decide) ?_
                  have hF : Fr B0 [10, 11] κ H0 _ := hF.closeN hB (fa_c (fun h9 => by rw [← (hKF _ h9).2, hsu.2]; simp) fa_n)
                  have hT : WT B0 D cs T (kp κr2987 (κ w).2.2.2 1 0) _ := hT.closeK (κ w).2.2.2 1 0 hB (by rw [hsu.1]; decide) (by rw [hsu.1]; decide) (List.mem_of_getElem? (i := 0) rfl) ⟨⟨0, _, rfl, kp_ok (ok_7 (k := ((κr2987 (κ w).2.2.2).1, (κr2987 (κ w).2.2.2).2.1, _, _)) hsu.1 ⟨_, _, _, _, _, _, _, _, rfl, (by omega), (Or.inr ⟨_, rfl, (t2kp hq2986)⟩), (Or.inr ⟨_, rfl⟩), ⟨(t2kp t2988_4).1, by rw [hsu.2]; exact (t2kp t2988_4).2⟩, ⟨(t2kp t2988_5).1, by rw [hsu.2]; exact (t2kp t2988_5).2⟩, ⟨(t2kp t2988_6).1, by rw [hsu.2]; exact (t2kp t2988_6).2⟩, ⟨(t2kp t2988_7).1, by rw [hsu.2]; exact (t2kp t2988_7).2⟩⟩)⟩, trivial⟩
                  have hL : OkL B0 _ := hB.2.2.2.2.2
                  have hP : va_P D vwCl [((κ w).2.2.2, .inr (6, [.int (nI pl), .int ne, .int pa, .ref q2986, .ref ct, .ref of, .ref dr, .ref dl]))] _ := hB.1
                  have hksq : va_at D vwCl ((κ w).2.2.2, .inr (6, [.int (nI pl), .int ne, .int pa, .ref q2986, .ref ct, .ref of, .ref dr, .ref dl])) _ := hP 0 _ rfl
                  have hkct := hkct.kept (hB.2.2.2.1 _ hkct.lt (by simp only [List.mem_cons, List.not_mem_nil, or_false, not_or]; exact ne_c hct.1 hsu.1 (by decide)))
                  have hkof := hkof.kept (hB.2.2.2.1 _ hkof.lt (by simp only [List.mem_cons, List.not_mem_nil, or_false, not_or]; exact ne_c hof.1 hsu.1 (by decide)))
                  have hkdr := hkdr.kept (hB.2.2.2.1 _ hkdr.lt (by simp only [List.mem_cons, List.not_mem_nil, or_false, not_or]; exact ne_c hdr.1 hsu.1 (by decide)))
                  have hkdl := hkdl.kept (hB.2.2.2.1 _ hkdl.lt (by simp only [List.mem_cons, List.not_mem_nil, or_false, not_or]; exact ne_c hdl.1 hsu.1 (by decide)))
                  have hkw := hkw.kept (hB.2.2.2.1 _ hkw.lt (by simp only [List.mem_cons, List.not_mem_nil, or_false, not_or]; exact ne_c hw.1 hsu.1 (by decide)))
                  have hktx := hktx.kept (hB.2.2.2.1 _ hktx.lt (by simp only [List.mem_cons, List.not_mem_nil, or_false, not_or]; exact ne_c htx.1 hsu.1 (by decide)))
                  have hkco := hkco.kept (hB.2.2.2.1 _ hkco.lt (by simp only [List.mem_cons, List.not_mem_nil, or_false, not_or]; exact ne_c hco.1 hsu.1 (by decide)))
                  have hsu := t2kp (x := 1) (y := 0) (a := (κ w).2.2.2) hsu
                  refine W.know (fun hg => ?_)
                  rw [hH0] at hg
                  exact en_i hx hb hr hlocks hL rfl (show 3 ≤ 3 by omega) (show ((0 + 2) + 616) ≤ 618 by omega) dX5_readStatement_132 (⟨_, (fun a h1 h2 => (kp_n h2).trans (hKX a h1)), hT, hF, hsu, Or.inr ⟨hmg1, by rw [kp_a], hg.mono (by omega) (by omega)⟩, Or.inl ⟨rfl, _, _, _, _, _, _, _, _, _, _, _, _, _, (stm_m_o e2822 e2841 (fun g9 => e2858 g9.1) (fun g9 => c2961 g9.2) e2963 hon.1 (by rw [← htw, ← hz2968]; exact e2975)), (by omega), (by omega), (by omega), Or.inr ⟨(fun g9 => by cases g9), _, rfl⟩, ⟨hkw, hktx, hkco⟩, ⟨hksq, hkct, hkof, hkdr, hkdl, hod⟩⟩⟩)
                · refine lv_if_ne (tgt := 109) hx hb dX5_readStatement_104 (by decide) (fun c9 => absurd (by decide) c9) (fun _ => ?_)
                  refine lv_iconst (v := 0) hx hb dX5_readStatement_107 (by decide) ?_
                  refine W.know (fun hg => ?_)
                  rw [hH0] at hg
                  exact en_i hx hb hr hlocks hL rfl (Nat.zero_le _) (Nat.zero_le _) dX5_readStatement_108 (⟨_, (fun _ _ _ => rfl), hT, hF, hsu, Or.inl ⟨rfl, hg⟩, Or.inr ⟨rfl, _, _, (stm_m_e e2822 e2841 (fun g9 => e2858 g9.1) (fun g9 => c2961 g9.2) e2963 hon.1 (by rw [← htw, ← hz2968]; exact e2983)), x2984⟩⟩)
              · refine va_getN (D := D) (ci := 6) (v := .ref a2965) (C := RX6) (T := TX6) (N := 8) hx hb hts iX5_readStatement_6 hown hN.1 hP 0 rfl rfl 3 (by decide) (hN.f 44 rfl) (fun _ h9 => h9) rfl dX5_readStatement_89 ?_
                refine lv_ifnonnull (tgt := 133) hx hb dX5_readStatement_92 (by decide) ?_
                have hon : ¬ om = none := hom.elim (fun g9 => absurd g9.2.1 (by simp)) (fun g9 => g9.1)
                refine lv_aload_n hx hb dX5_readStatement_133 rfl (lv_at hl 0 rfl) ?_
                refine lv_bipush (v := (-2)) hx hb dX5_readStatement_134 (by decide) ?_
                refine lv_aload_n hx hb dX5_readStatement_136 rfl (lv_at hl 0 rfl) ?_
                refine va_get (D := D) (ci := 5) (v := .int (nI z)) (C := RX5) (T := TX5) (N := 14) hx hb hts iX5_readStatement_5 hown hN.1 hP 1 rfl rfl 5 (by decide) (hts _ mX5_readStatement_7) (fun _ h9 => h9) rfl dX5_readStatement_137 ?_
                refine cv_i (As := [.int (-2), .int (nI z)]) (rest := []) (b := w) ⟨hx, hb, hml, hown, hts⟩ (c_X5_fail hT (w := w) hw (x := (-2)) (y := (nI z)) (by first | omega | decide | assumption) (by first | omega | decide | assumption) (by first | omega | decide | assumption) (by first | omega | decide | assumption) (by first | omega | decide | assumption) ⟨hkw, hktx, hkco⟩) (cwV 2 hts gX5_readStatement_X5_fail rfl rfl rfl hdX5_fail_v ⟨Nat.le_of_ble_eq_true rfl, Nat.le_of_ble_eq_true rfl⟩) hN hE hL (rcv6 hN hT hw.1) rfl rfl hl.1 (Nat.le_of_ble_eq_true rfl) dX5_readStatement_140 (Nat.zero_le _) (Nat.zero_le _) (fun r2989 H1 locs hL hqr2989 => ?_)
                obtain ⟨hT1, hF1, hqr2989⟩ := hqr2989
                have hP : va_P D vwCl [((κ w).2.2.2, .inr (6, [.int (nI pl), .int ne, .int pa, .ref a2965, .ref ct, .ref of, .ref dr, .ref dl]))] _ := hF1.hP (hP.sub [0] rfl) (fa_c ⟨by rw [hsu.1]; decide, by rw [hsu.2]; first | decide | (simp; done) | (simp [h15a, h15b, h15c]; done) | (simp; omega)⟩ fa_n)
                have hksq := hF1.hP (va_P.cons hksq va_P.nil) (fa_c ⟨by rw [hsu.1]; decide, by rw [hsu.2]; first | decide | (simp; done) | (simp; omega)⟩ fa_n) 0 _ rfl
                have hkct := hF1.hP (va_P.cons hkct va_P.nil) (fa_c ⟨by rw [hct.1]; decide, by rw [hct.2]; first | decide | (simp; done) | (simp; omega)⟩ fa_n) 0 _ rfl
                have hkof := hF1.hP (va_P.cons hkof va_P.nil) (fa_c ⟨by rw [hof.1]; decide, by rw [hof.2]; first | decide | (simp; done) | (simp; omega)⟩ fa_n) 0 _ rfl
                have hkdr := hF1.hP (va_P.cons hkdr va_P.nil) (fa_c ⟨by rw [hdr.1]; decide, by rw [hdr.2]; first | decide | (simp; done) | (simp; omega)⟩ fa_n) 0 _ rfl
                have hkdl := hF1.hP (va_P.cons hkdl va_P.nil) (fa_c ⟨by rw [hdl.1]; decide, by rw [hdl.2]; first | decide | (simp; done) | (simp; omega)⟩ fa_n) 0 _ rfl
                have hF := hF.tr (hF1.mono (by simp))
                have hT := hT1
                obtain ⟨rfl, m2990⟩ := hqr2989
                obtain ⟨hkw, hktx, hkco⟩ := m2990
                refine W.know (fun hg => ?_)
                rw [hH0] at hg
                exact en_i hx hb hr hlocks hL rfl (Nat.zero_le _) (Nat.zero_le _) dX5_readStatement_143 (⟨_, (fun _ _ _ => rfl), hT, hF, hsu, Or.inl ⟨rfl, hg⟩, Or.inr ⟨rfl, _, _, (stm_0 e2822 e2841 (fun g9 => e2858 g9.1) (fun g9 => c2961 g9.2) (fun g9 => hon g9.2)), ⟨_, _, _, _, _, _, _, _, (by omega), (by omega), (by omega), hkw, hktx, hkco⟩⟩⟩)
            · refine lv_if_eq (tgt := 133) hx hb dX5_readStatement_82 (by decide) (fun _ => ?_) (fun c9 => absurd (by decide) c9)
              refine lv_aload_n hx hb dX5_readStatement_133 rfl (lv_at hl 0 rfl) ?_
              refine lv_bipush (v := (-2)) hx hb dX5_readStatement_134 (by decide) ?_
              refine lv_aload_n hx hb dX5_readStatement_136 rfl (lv_at hl 0 rfl) ?_
              refine va_get (D := D) (ci := 5) (v := .int (nI z)) (C := RX5) (T := TX5) (N := 14) hx hb hts iX5_readStatement_5 hown hN.1 hP 1 rfl rfl 5 (by decide) (hts _ mX5_readStatement_7) (fun _ h9 => h9) rfl dX5_readStatement_137 ?_
              refine cv_i (As := [.int (-2), .int (nI z)]) (rest := []) (b := w) ⟨hx, hb, hml, hown, hts⟩ (c_X5_fail hT (w := w) hw (x := (-2)) (y := (nI z)) (by first | omega | decide | assumption) (by first | omega | decide | assumption) (by first | omega | decide | assumption) (by first | omega | decide | assumption) (by first | omega | decide | assumption) ⟨hkw, hktx, hkco⟩) (cwV 2 hts gX5_readStatement_X5_fail rfl rfl rfl hdX5_fail_v ⟨Nat.le_of_ble_eq_true rfl, Nat.le_of_ble_eq_true rfl⟩) hN hE hL (rcv6 hN hT hw.1) rfl rfl hl.1 (Nat.le_of_ble_eq_true rfl) dX5_readStatement_140 (Nat.zero_le _) (Nat.zero_le _) (fun r2991 H1 locs hL hqr2991 => ?_)
              obtain ⟨hT1, hF1, hqr2991⟩ := hqr2991
              have hP : va_P D vwCl [((κ w).2.2.2, .inr (6, [.int (nI pl), .int ne, .int pa, mg, .ref ct, .ref of, .ref dr, .ref dl]))] _ := hF1.hP (hP.sub [0] rfl) (fa_c ⟨by rw [hsu.1]; decide, by rw [hsu.2]; first | decide | (simp; done) | (simp [h15a, h15b, h15c]; done) | (simp; omega)⟩ fa_n)
              have hksq := hF1.hP (va_P.cons hksq va_P.nil) (fa_c ⟨by rw [hsu.1]; decide, by rw [hsu.2]; first | decide | (simp; done) | (simp; omega)⟩ fa_n) 0 _ rfl
              have hkct := hF1.hP (va_P.cons hkct va_P.nil) (fa_c ⟨by rw [hct.1]; decide, by rw [hct.2]; first | decide | (simp; done) | (simp; omega)⟩ fa_n) 0 _ rfl
              have hkof := hF1.hP (va_P.cons hkof va_P.nil) (fa_c ⟨by rw [hof.1]; decide, by rw [hof.2]; first | decide | (simp; done) | (simp; omega)⟩ fa_n) 0 _ rfl
              have hkdr := hF1.hP (va_P.cons hkdr va_P.nil) (fa_c ⟨by rw [hdr.1]; decide, by rw [hdr.2]; first | decide | (simp; done) | (simp; omega)⟩ fa_n) 0 _ rfl
              have hkdl := hF1.hP (va_P.cons hkdl va_P.nil) (fa_c ⟨by rw [hdl.1]; decide, by rw [hdl.2]; first | decide | (simp; done) | (simp; omega)⟩ fa_n) 0 _ rfl
              have hF := hF.tr (hF1.mono (by simp))
              have hT := hT1
              obtain ⟨rfl, m2992⟩ := hqr2991
              obtain ⟨hkw, hktx, hkco⟩ := m2992
              refine W.know (fun hg => ?_)
              rw [hH0] at hg
              exact en_i hx hb hr hlocks hL rfl (Nat.zero_le _) (Nat.zero_le _) dX5_readStatement_143 (⟨_, (fun _ _ _ => rfl), hT, hF, hsu, Or.inl ⟨rfl, hg⟩, Or.inr ⟨rfl, _, _, (stm_0 e2822 e2841 (fun g9 => e2858 g9.1) (fun g9 => c2961 g9.2) (fun g9 => e2964 g9.1)), ⟨_, _, _, _, _, _, _, _, (by omega), (by omega), (by omega), hkw, hktx, hkco⟩⟩⟩)
          · refine lv_aload_n hx hb dX5_readStatement_71 rfl (lv_at hl 0 rfl) ?_
            refine cv_i (As := []) (rest := []) (b := w) ⟨hx, hb, hml, hown, hts⟩ (c_X5_readPatience hT (w := w) hw (by first | omega | decide | assumption) (by first | omega | decide | assumption) (by first | omega | decide | assumption) (by first | omega | decide | assumption) (by first | omega | decide | assumption) ⟨hksq, hkct, hkof, hkdr, hkdl, hod⟩ (by first | omega | decide | assumption) ⟨hkw, hktx, hkco⟩) (cwV 0 hts gX5_readStatement_X5_readPatience rfl rfl rfl hdX5_readPatience_v ⟨Nat.le_of_ble_eq_true rfl, Nat.le_of_ble_eq_true rfl⟩) hN hE hL (rcv6 hN hT hw.1) rfl rfl hl.1 (Nat.le_of_ble_eq_true rfl) dX5_readStatement_72 (Nat.zero_le _) (Nat.zero_le _) (fun r2993 H1 locs hL hqr2993 => ?_)
            obtain ⟨hT1, hF1, hqr2993⟩ := hqr2993
            have hF := hF.tr (hF1.mono (by simp))
            have hT := hT1
            rcases hqr2993 with ⟨rfl, v12994, q2995, t2996, k2997, e2998, u2999, v3000, m3001, x3002⟩ | ⟨rfl, c3003, o3004, e3005, x3006⟩
            · obtain ⟨hkw, hktx, hkco⟩ := m3001
              have hzE := tkE_le hY (s := q2995) (by omega)
              obtain ⟨hksq, hkct, hkof, hkdr, hkdl, hod⟩ := x3002
              have hq18 := f18 hT hct hkct
              have hq20 := f20 hT hdl hkdl
              refine W.know (fun hg => ?_)
              rw [hH0] at hg
              exact en_i hx hb hr hlocks hL rfl (Nat.zero_le _) (Nat.zero_le _) dX5_readStatement_75 (⟨_, (fun _ _ _ => rfl), hT, hF, hsu, Or.inl ⟨rfl, hg⟩, Or.inl ⟨rfl, _, _, _, _, _, _, _, _, _, _, _, _, _, (stm_p_o e2822 e2841 (fun g9 => e2858 g9.1) e2957 c2961 (by rw [← htw]; exact e2998)), (by omega), (by omega), (by omega), hom, ⟨hkw, hktx, hkco⟩, ⟨hksq, hkct, hkof, hkdr, hkdl, hod⟩⟩⟩)
            · refine W.know (fun hg => ?_)
              rw [hH0] at hg
              exact en_i hx hb hr hlocks hL rfl (Nat.zero_le _) (Nat.zero_le _) dX5_readStatement_75 (⟨_, (fun _ _ _ => rfl), hT, hF, hsu, Or.inl ⟨rfl, hg⟩, Or.inr ⟨rfl, _, _, (stm_p_e e2822 e2841 (fun g9 => e2858 g9.1) e2957 c2961 (by rw [← htw]; exact e3005)), x3006⟩⟩)
        · refine lv_if_eq (tgt := 76) hx hb dX5_readStatement_58 (by decide) (fun _ => ?_) (fun c9 => absurd (by decide) c9)
          refine lv_aload_n hx hb dX5_readStatement_76 rfl (lv_at hl 0 rfl) ?_
          refine va_ldcS hx hb hown (hN.s 6 rfl) dX5_readStatement_77 ?_
          refine cv_i (As := [.ref (cs 106)]) (rest := []) (b := w) ⟨hx, hb, hml, hown, hts⟩ (c_X5_isWord hT (w := w) hw (i := 6) (by decide) (by first | omega | decide | assumption) (by first | omega | decide | assumption) (by first | omega | decide | assumption) (by first | omega | decide | assumption) ⟨hkw, hktx, hkco⟩) (cwV 1 hts gX5_readStatement_X5_isWord rfl rfl rfl hdX5_isWord_v ⟨Nat.le_of_ble_eq_true rfl, Nat.le_of_ble_eq_true rfl⟩) hN hE hL (rcv6 hN hT hw.1) rfl rfl hl.1 (Nat.le_of_ble_eq_true rfl) dX5_readStatement_79 (Nat.zero_le _) (Nat.zero_le _) (fun r3007 H1 locs hL hqr3007 => ?_)
          obtain ⟨h9, hqr3007⟩ := hqr3007; replace h9 := h9.symm; subst h9
          rcases hqr3007 with ⟨rfl, e3008⟩ | ⟨rfl, e3009⟩
          · have htw := tkE_w hY (i := 6) (by decide) e3008
            have hwl := isW_lt hY (i := 6) (by decide) e3008
            rw [← htw] at hwl
            refine lv_if_eq (tgt := 133) hx hb dX5_readStatement_82 (by decide) (fun c9 => absurd c9 (by decide)) (fun _ => ?_)
            refine lv_aload_n hx hb dX5_readStatement_85 rfl (lv_at hl 0 rfl) ?_
            obtain ⟨hb3010, e3010, hat3010, hk3010⟩ := hT.o6 hw.1
            obtain ⟨f3010_0, f3010_2, f3010_3, f3010_4, f3010_5, f3010_6, f3010_7, f3010_8, f3010_9, f3010_10, f3010_11, f3010_12, f3010_13, rfl, c3010_1, c3010_2, c3010_3, c3010_5, c3010_10, t3010_0, t3010_9, c3010_11, c3010_p2⟩ := hk3010
            obtain ⟨rfl, rfl, rfl, rfl, rfl, rfl, rfl, rfl, rfl, rfl, rfl, rfl, rfl⟩ := eq6 hat3010 hkw (by omega)
            have hP : va_P D vwCl [(w, .inr (5, [.ref tx, .int (nI ((κ w).2.2.1)), .int (nI tn), .int (nI ((tkE B z))), .int (tkK B z), .int (nI z), .int (tkV B z), .int ta, .int tk, .ref co, .int (nI cc), .ref (κ w).2.2.2, .int ec, .int es]))] _ := va_P.cons hat3010 va_P.nil
            refine va_get (D := D) (ci := 5) (v := .ref (κ w).2.2.2) (C := RX5) (T := TX5) (N := 14) hx hb hts iX5_readStatement_5 hown hN.1 hP 0 rfl rfl 11 (by decide) (hts _ mX5_readStatement_1) (fun _ h9 => h9) rfl dX5_readStatement_86 ?_
            obtain ⟨hb3011, e3011, hat3011, hk3011⟩ := hT.o7 hsu.1
            obtain ⟨f3011_0, f3011_1, f3011_2, f3011_3, f3011_4, f3011_5, f3011_6, f3011_7, rfl, c3011_0, c3011_3, c3011_mg, t3011_4, t3011_5, t3011_6, t3011_7⟩ := hk3011
            rw [hsu.2] at t3011_4
            rw [hsu.2] at t3011_5
            rw [hsu.2] at t3011_6
            rw [hsu.2] at t3011_7
            obtain ⟨rfl, rfl, rfl, rfl, rfl, rfl, rfl, rfl⟩ := eq7 hat3011 hksq (by omega)
            have hP : va_P D vwCl [((κ w).2.2.2, .inr (6, [.int (nI pl), .int ne, .int pa, mg, .ref ct, .ref of, .ref dr, .ref dl])), (w, .inr (5, [.ref tx, .int (nI ((κ w).2.2.1)), .int (nI tn), .int (nI ((tkE B z))), .int (tkK B z), .int (nI z), .int (tkV B z), .int ta, .int tk, .ref co, .int (nI cc), .ref (κ w).2.2.2, .int ec, .int es]))] _ := va_P.cons hat3011 hP
            rcases c3011_3 with rfl | ⟨a3012, rfl, ta3012⟩
            · refine va_getN (D := D) (ci := 6) (v := .null) (C := RX6) (T := TX6) (N := 8) hx hb hts iX5_readStatement_6 hown hN.1 hP 0 rfl rfl 3 (by decide) (hN.f 44 rfl) (fun _ h9 => h9) rfl dX5_readStatement_89 ?_
              refine lv_ifnonnullN hx hb dX5_readStatement_92 ?_
              have hmg1 : (κ (κ w).2.2.2).2.2.1 ≠ 1 := (c3011_mg).resolve_right (by rintro ⟨_, h9⟩; cases h9)
              have hon : om = none ∧ cc = 0 := hom.elim (fun g9 => ⟨g9.1, g9.2.2⟩) (fun g9 => by obtain ⟨_, _, e9⟩ := g9; cases e9)
              refine lv_aload_n hx hb dX5_readStatement_95 rfl (lv_at hl 0 rfl) ?_
              refine cv_v (As := []) (rest := []) (b := w) ⟨hx, hb, hml, hown, hts⟩ (c_X5_step hT (w := w) hw (by first | omega | decide | assumption) (by first | omega | decide | assumption) (by first | omega | decide | assumption) (by first | omega | decide | assumption) (by first | omega | decide | assumption) ⟨hkw, hktx, hkco⟩) (cwV 0 hts gX5_readStatement_X5_step rfl rfl rfl hdX5_step_v ⟨Nat.le_of_ble_eq_true rfl, Nat.le_of_ble_eq_true rfl⟩) hN hE hL (rcv6 hN hT hw.1) rfl rfl hl.1 (Nat.le_of_ble_eq_true rfl) dX5_readStatement_96 (Nat.zero_le _) (Nat.zero_le _) (fun H1 locs hL hqr3013 => ?_)
              obtain ⟨hT1, hF1, hqr3013⟩ := hqr3013
              have hP : va_P D vwCl [((κ w).2.2.2, .inr (6, [.int (nI pl), .int ne, .int pa, .null, .ref ct, .ref of, .ref dr, .ref dl]))] _ := hF1.hP (hP.sub [0] rfl) (fa_c ⟨by rw [hsu.1]; decide, by rw [hsu.2]; first | decide | (simp; done) | (simp [h15a, h15b, h15c]; done) | (simp; omega)⟩ fa_n)
              have hksq := hF1.hP (va_P.cons hksq va_P.nil) (fa_c ⟨by rw [hsu.1]; decide, by rw [hsu.2]; first | decide | (simp; done) | (simp; omega)⟩ fa_n) 0 _ rfl
              have hkct := hF1.hP (va_P.cons hkct va_P.nil) (fa_c ⟨by rw [hct.1]; decide, by rw [hct.2]; first | decide | (simp; done) | (simp; omega)⟩ fa_n) 0 _ rfl
              have hkof := hF1.hP (va_P.cons hkof va_P.nil) (fa_c ⟨by rw [hof.1]; decide, by rw [hof.2]; first | decide | (simp; done) | (simp; omega)⟩ fa_n) 0 _ rfl
              have hkdr := hF1.hP (va_P.cons hkdr va_P.nil) (fa_c ⟨by rw [hdr.1]; decide, by rw [hdr.2]; first | decide | (simp; done) | (simp; omega)⟩ fa_n) 0 _ rfl
              have hkdl := hF1.hP (va_P.cons hkdl va_P.nil) (fa_c ⟨by rw [hdl.1]; decide, by rw [hdl.2]; first | decide | (simp; done) | (simp; omega)⟩ fa_n) 0 _ rfl
              have hF := hF.tr (hF1.mono (by simp))
              have hT := hT1
              have m3014 := hqr3013
              obtain ⟨z3015, hz3015⟩ : ∃ z9, z9 = skp B ((tkE B z)) := ⟨_, rfl⟩
              rw [← hz3015] at m3014
              have bz3015 : z3015 ≤ tn := by rw [hz3015]; exact run_ub hY (by decide) (by omega)
              have hzE := tkE_le hY (s := z3015) (by omega)
              obtain ⟨hkw, hktx, hkco⟩ := m3014
              have hz1b : cc ≤ z3015 := by omega
              refine lv_aload_n hx hb dX5_readStatement_99 rfl (lv_at hl 0 rfl) ?_
              refine lv_iconst (v := 0) hx hb dX5_readStatement_100 (by decide) ?_
              refine cv_i (As := [.int 0]) (rest := []) (b := w) ⟨hx, hb, hml, hown, hts⟩ (c_X5_readSum_d0 hT (w := w) hw (by first | omega | decide | assumption) (by first | omega | decide | assumption) (by first | omega | decide | assumption) (by first | omega | decide | assumption) ⟨hkw, hktx, hkco⟩ (by first | omega | decide | assumption)) (cwV 1 hts gX5_readStatement_X5_readSum rfl rfl rfl hdX5_readSum_v ⟨Nat.le_of_ble_eq_true rfl, Nat.le_of_ble_eq_true rfl⟩) hN hE hL (rcv6 hN hT hw.1) rfl rfl hl.1 (Nat.le_of_ble_eq_true rfl) dX5_readStatement_101 (Nat.zero_le _) (Nat.zero_le _) (fun r3016 H1 locs hL hqr3016 => ?_)
              obtain ⟨hT1, hF1, hqr3016⟩ := hqr3016
              have hP : va_P D vwCl [((κ w).2.2.2, .inr (6, [.int (nI pl), .int ne, .int pa, .null, .ref ct, .ref of, .ref dr, .ref dl]))] _ := hF1.hP (hP.sub [0] rfl) (fa_c ⟨by rw [hsu.1]; decide, by rw [hsu.2]; first | decide | (simp; done) | (simp [h15a, h15b, h15c]; done) | (simp; omega)⟩ fa_n)
              have hksq := hF1.hP (va_P.cons hksq va_P.nil) (fa_c ⟨by rw [hsu.1]; decide, by rw [hsu.2]; first | decide | (simp; done) | (simp; omega)⟩ fa_n) 0 _ rfl
              have hkct := hF1.hP (va_P.cons hkct va_P.nil) (fa_c ⟨by rw [hct.1]; decide, by rw [hct.2]; first | decide | (simp; done) | (simp; omega)⟩ fa_n) 0 _ rfl
              have hkof := hF1.hP (va_P.cons hkof va_P.nil) (fa_c ⟨by rw [hof.1]; decide, by rw [hof.2]; first | decide | (simp; done) | (simp; omega)⟩ fa_n) 0 _ rfl
              have hkdr := hF1.hP (va_P.cons hkdr va_P.nil) (fa_c ⟨by rw [hdr.1]; decide, by rw [hdr.2]; first | decide | (simp; done) | (simp; omega)⟩ fa_n) 0 _ rfl
              have hkdl := hF1.hP (va_P.cons hkdl va_P.nil) (fa_c ⟨by rw [hdl.1]; decide, by rw [hdl.2]; first | decide | (simp; done) | (simp; omega)⟩ fa_n) 0 _ rfl
              have hF := hF.tr (hF1.mono (by simp))
              have hT := hT1
              rcases hqr3016 with ⟨rfl, l3017, q3018, f3019, t3020, k3021, e3022, u3023, v3024, b3025, c3026, m3027⟩ | ⟨rfl, c3028, o3029, e3030, x3031⟩
              · obtain ⟨hkw, hktx, hkco⟩ := m3027
                have hzE := tkE_le hY (s := q3018) (by omega)
                refine lv_if_ne (tgt := 109) hx hb dX5_readStatement_104 (by decide) (fun _ => ?_) (fun c9 => absurd c9 (by decide))
                refine lv_aload_n hx hb dX5_readStatement_109 rfl (lv_at hl 0 rfl) ?_
                obtain ⟨hb3032, e3032, hat3032, hk3032⟩ := hT.o6 hw.1
                obtain ⟨f3032_0, f3032_2, f3032_3, f3032_4, f3032_5, f3032_6, f3032_7, f3032_8, f3032_9, f3032_10, f3032_11, f3032_12, f3032_13, rfl, c3032_1, c3032_2, c3032_3, c3032_5, c3032_10, t3032_0, t3032_9, c3032_11, c3032_p2⟩ := hk3032
                obtain ⟨rfl, rfl, rfl, rfl, rfl, rfl, rfl, rfl, rfl, rfl, rfl, rfl, rfl⟩ := eq6 hat3032 hkw (by omega)
                have hP : va_P D vwCl [(w, .inr (5, [.ref tx, .int (nI ((κ w).2.2.1)), .int (nI tn), .int (nI ((tkE B q3018))), .int (tkK B q3018), .int (nI q3018), .int (tkV B q3018), .int t3020, .int k3021, .ref co, .int (nI (cc + l3017.length)), .ref (κ w).2.2.2, .int ec, .int es])), ((κ w).2.2.2, .inr (6, [.int (nI pl), .int ne, .int pa, .null, .ref ct, .ref of, .ref dr, .ref dl]))] _ := va_P.cons hat3032 hP
                refine va_get (D := D) (ci := 5) (v := .ref (κ w).2.2.2) (C := RX5) (T := TX5) (N := 14) hx hb hts iX5_readStatement_5 hown hN.1 hP 0 rfl rfl 11 (by decide) (hts _ mX5_readStatement_1) (fun _ h9 => h9) rfl dX5_readStatement_110 ?_
                have hb0 : B0 ≤ _ := hT.b0 hw (by decide)
                have hB : Bx B0 D _ [(w, .inr (5, [.ref tx, .int (nI ((κ w).2.2.1)), .int (nI tn), .int (nI ((tkE B q3018))), .int (tkK B q3018), .int (nI q3018), .int (tkV B q3018), .int t3020, .int k3021, .ref co, .int (nI (cc + l3017.length)), .ref (κ w).2.2.2, .int ec, .int es])), ((κ w).2.2.2, .inr (6, [.int (nI pl), .int ne, .int pa, .null, .ref ct, .ref of, .ref dr, .ref dl]))] [] _ _ := Bx.of (fun a => (κ a).1) hL hP (fa_c hb3032 (fa_c hb3011 fa_n)) (by simp only [List.map_cons, List.map_nil, hw.1, hsu.1]; decide)
                refine nw_o (ci := 0) (fs := [.null, .null]) (C := RX0) (T := TX0) (N := 2) hx hb hts iX5_readStatement_0 tyX0 tyX0_ok hown (hts _ mX5_readStatement_2) (hts _ mX5_readStatement_3) (hts _ mX5_readStatement_4) hN rfl dfl0 (show 0 + 1 ≤ 3 by omega) (show 0 + 2 ≤ 618 by omega) dX5_readStatement_113 (fun q3033 H heq3033 hzq3033 hoq3033 hatq3033 => ?_)
                have hgeq3033 : _ ≤ q3033 := Nat.le_trans hB.2.2.1 (Nat.le_of_eq heq3033.symm)
                have hbq3033 : B0 ≤ q3033 := Nat.le_trans hb0 hgeq3033
                have hfq3033 : (κ q3033).1 = 0 := hT.fresh hgeq3033
                have hB := hB.nw heq3033 hzq3033 hoq3033 hatq3033 hb0
                have hB : Bx B0 D _ [(w, .inr (5, [.ref tx, .int (nI ((κ w).2.2.1)), .int (nI tn), .int (nI ((tkE B q3018))), .int (tkK B q3018), .int (nI q3018), .int (tkV B q3018), .int t3020, .int k3021, .ref co, .int (nI (cc + l3017.length)), .ref (κ w).2.2.2, .int ec, .int es])), ((κ w).2.2.2, .inr (6, [.int (nI pl), .int ne, .int pa, .null, .ref ct, .ref of, .ref dr, .ref dl])), (q3033, .inr (0, [.null, .null]))] [] _ _ := hB
                refine lv_dup hx hb dX5_readStatement_116 rfl ?_
                refine lv_aload_n hx hb dX5_readStatement_117 rfl (lv_at hl 0 rfl) ?_
                refine va_get (D := D) (ci := 5) (v := .ref co) (C := RX5) (T := TX5) (N := 14) hx hb hts iX5_readStatement_5 hown hN.1 hB.1 0 rfl rfl 9 (by decide) (hts _ mX5_readStatement_5) (fun _ h9 => h9) rfl dX5_readStatement_118 ?_
                refine lv_aload_n hx hb dX5_readStatement_121 rfl (lv_at hl 0 rfl) ?_
                refine va_get (D := D) (ci := 5) (v := .int (nI (cc + l3017.length))) (C := RX5) (T := TX5) (N := 14) hx hb hts iX5_readStatement_5 hown hN.1 hB.1 0 rfl rfl 10 (by decide) (hts _ mX5_readStatement_6) (fun _ h9 => h9) rfl dX5_readStatement_122 ?_
                have hT : WT B0 D cs T κ _ := hT.close hB trivial
                have hF : Fr B0 [10, 11] κ H0 _ := hF.close hB fa_n
                have hL : OkL B0 _ := hB.2.2.2.2.2
                have hP : va_P D vwCl [(w, .inr (5, [.ref tx, .int (nI ((κ w).2.2.1)), .int (nI tn), .int (nI ((tkE B q3018))), .int (tkK B q3018), .int (nI q3018), .int (tkV B q3018), .int t3020, .int k3021, .ref co, .int (nI (cc + l3017.length)), .ref (κ w).2.2.2, .int ec, .int es])), ((κ w).2.2.2, .inr (6, [.int (nI pl), .int ne, .int pa, .null, .ref ct, .ref of, .ref dr, .ref dl])), (q3033, .inr (0, [.null, .null]))] _ := hB.1
                have hksq : va_at D vwCl ((κ w).2.2.2, .inr (6, [.int (nI pl), .int ne, .int pa, .null, .ref ct, .ref of, .ref dr, .ref dl])) _ := hP 1 _ rfl
                have hkct := hkct.kept (hB.2.2.2.1 _ hkct.lt (by simp))
                have hkof := hkof.kept (hB.2.2.2.1 _ hkof.lt (by simp))
                have hkdr := hkdr.kept (hB.2.2.2.1 _ hkdr.lt (by simp))
                have hkdl := hkdl.kept (hB.2.2.2.1 _ hkdl.lt (by simp))
                have hkw : va_at D vwCl (w, .inr (5, [.ref tx, .int (nI ((κ w).2.2.1)), .int (nI tn), .int (nI ((tkE B q3018))), .int (tkK B q3018), .int (nI q3018), .int (tkV B q3018), .int t3020, .int k3021, .ref co, .int (nI (cc + l3017.length)), .ref (κ w).2.2.2, .int ec, .int es])) _ := hP 0 _ rfl
                have hktx := hktx.kept (hB.2.2.2.1 _ hktx.lt (by simp))
                have hkco := hkco.kept (hB.2.2.2.1 _ hkco.lt (by simp))
                refine ci_v (As := [.ref co, .int (nI (cc + l3017.length))]) (rest := [.ref q3033, .ref (κ w).2.2.2]) (b := q3033) ⟨hx, hb, hml, hown, hts⟩ (c_X0_init hT (w := q3033) hfq3033 hbq3033 (hP 2 _ rfl) (v := co) t3032_9 (n := (cc + l3017.length)) (by first | omega | decide | assumption)) (cwI 2 hts gX5_readStatement_X0_init rfl rfl rfl (hts _ mX5_readStatement_4) (hts _ mX5_readStatement_156) (hts _ mX5_readStatement_157) rfl hdX0_init_o ⟨Nat.le_of_ble_eq_true rfl, Nat.le_of_ble_eq_true rfl⟩) hN hE hL rfl rfl hl.1 (Nat.le_of_ble_eq_true rfl) dX5_readStatement_125 (show 1 + 2 ≤ 3 by omega) (show (0 + 2) + 616 ≤ 618 by omega) (fun H1 locs hL hqr3034 => ?_)
                obtain ⟨κr3034, hxr3034, hT1, hF1, hqr3034⟩ := hqr3034
                have hksq := hF1.hP (va_P.cons hksq va_P.nil) (fa_c ⟨by rw [hsu.1]; decide, by rw [hsu.2]; first | decide | (simp; done) | (simp; omega)⟩ fa_n) 0 _ rfl
                have hkct := hF1.hP (va_P.cons hkct va_P.nil) (fa_c ⟨by rw [hct.1]; decide, by rw [hct.2]; first | decide | (simp; done) | (simp; omega)⟩ fa_n) 0 _ rfl
                have hkof := hF1.hP (va_P.cons hkof va_P.nil) (fa_c ⟨by rw [hof.1]; decide, by rw [hof.2]; first | decide | (simp; done) | (simp; omega)⟩ fa_n) 0 _ rfl
                have hkdr := hF1.hP (va_P.cons hkdr va_P.nil) (fa_c ⟨by rw [hdr.1]; decide, by rw [hdr.2]; first | decide | (simp; done) | (simp; omega)⟩ fa_n) 0 _ rfl
                have hkdl := hF1.hP (va_P.cons hkdl va_P.nil) (fa_c ⟨by rw [hdl.1]; decide, by rw [hdl.2]; first | decide | (simp; done) | (simp; omega)⟩ fa_n) 0 _ rfl
                have hkw := hF1.hP (va_P.cons hkw va_P.nil) (fa_c ⟨by rw [hw.1]; decide, by rw [hw.2]; first | decide | (simp; done) | (simp; omega)⟩ fa_n) 0 _ rfl
                have hktx := hF1.hP (va_P.cons hktx va_P.nil) (fa_c ⟨by rw [htx.1]; decide, by rw [htx.2]; first | decide | (simp; done) | (simp; omega)⟩ fa_n) 0 _ rfl
                have hkco := hF1.hP (va_P.cons hkco va_P.nil) (fa_c ⟨by rw [hco.1]; decide, by rw [hco.2]; first | decide | (simp; done) | (simp; omega)⟩ fa_n) 0 _ rfl
                have hF := hF.tr (hF1.mono (by simp))
                have hT := hT1
                have hKF : KF κ κr3034 := hxr3034.f
                have hKX : KX κ κr3034 := hxr3034
                have hw := (hxr3034.f.t2 hw (by decide))
                have hsu := (hxr3034.f.t2 hsu (by decide))
                have htx := (hxr3034.f.t2 htx (by decide))
                have hco := (hxr3034.f.t2 hco (by decide))
                have hct := (hxr3034.f.t2 hct (by decide))
                have hof := (hxr3034.f.t2 hof (by decide))
                have hdr := (hxr3034.f.t2 hdr (by decide))
                have hdl := (hxr3034.f.t2 hdl (by decide))
                have hq3033 := hqr3034
                obtain ⟨hb3035, e3035, hat3035, hk3035⟩ := hT.o7 hsu.1
                obtain ⟨f3035_0, f3035_1, f3035_2, f3035_3, f3035_4, f3035_5, f3035_6, f3035_7, rfl, c3035_0, c3035_3, c3035_mg, t3035_4, t3035_5, t3035_6, t3035_7⟩ := hk3035
                rw [hsu.2] at t3035_4
                rw [hsu.2] at t3035_5
                rw [hsu.2] at t3035_6
                rw [hsu.2] at t3035_7
                obtain ⟨rfl, rfl, rfl, rfl, rfl, rfl, rfl, rfl⟩ := eq7 hat3035 hksq (by omega)
                have hP : va_P D vwCl [((κ w).2.2.2, .inr (6, [.int (nI pl), .int ne, .int pa, .null, .ref ct, .ref of, .ref dr, .ref dl]))] _ := va_P.cons hat3035 va_P.nil
                have hB : Bx B0 D _ [((κ w).2.2.2, .inr (6, [.int (nI pl), .int ne, .int pa, .null, .ref ct, .ref of, .ref dr, .ref dl]))] [] _ _ := Bx.of (fun a => (κr3034 a).1) hL hP (fa_c hb3035 fa_n) (by simp only [List.map_cons, List.map_nil, hsu.1]; decide)
                refine b_putN (D := D) (ci := 6) (v := .ref q3033) (ty := .object "OneBeat$Formula") (C := RX6) (T := TX6) (N := 8) hx hb hts iX5_readStatement_6 tyX6 tyX6_ok nmX6 hown hN hB 0 rfl rfl 3 (by decide) (hN.f 44 rfl) (fun _ h9 => h9) rfl (by decide +kernel) rfl rfl (Nat.le_of_ble_eq_true rfl) (.inl rfl) dX5_readStatement_128 (fun H locs hB => ?_)
                have hB : Bx B0 D _ [((κ w).2.2.2, .inr (6, [.int (nI pl), .int ne, .int pa, .ref q3033, .ref ct, .ref of, .ref dr, .ref dl]))] [(κ w).2.2.2] _ _ := hB
                refine lv_iconst (v := 1) hx hb dX5_readStatement_131 (by decide) ?_
                have hF : Fr B0 [10, 11] κ H0 _ := hF.closeN hB (fa_c (fun h9 => by rw [← (hKF _ h9).2, hsu.2]; simp) fa_n)
                have hT : WT B0 D cs T (kp κr3034 (κ w).2.2.2 1 0) _ := hT.closeK (κ w).2.2.2 1 0 hB (by rw [hsu.1]; decide) (by rw [hsu.1]; decide) (List.mem_of_getElem? (i := 0) rfl) ⟨⟨0, _, rfl, kp_ok (ok_7 (k := ((κr3034 (κ w).2.2.2).1, (κr3034 (κ w).2.2.2).2.1, _, _)) hsu.1 ⟨_, _, _, _, _, _, _, _, rfl, (by omega), (Or.inr ⟨_, rfl, (t2kp hq3033)⟩), (Or.inr ⟨_, rfl⟩), ⟨(t2kp t3035_4).1, by rw [hsu.2]; exact (t2kp t3035_4).2⟩, ⟨(t2kp t3035_5).1, by rw [hsu.2]; exact (t2kp t3035_5).2⟩, ⟨(t2kp t3035_6).1, by rw [hsu.2]; exact (t2kp t3035_6).2⟩, ⟨(t2kp t3035_7).1, by rw [hsu.2]; exact (t2kp t3035_7).2⟩⟩)⟩, trivial⟩
                have hL : OkL B0 _ := hB.2.2.2.2.2
                have hP : va_P D vwCl [((κ w).2.2.2, .inr (6, [.int (nI pl), .int ne, .int pa, .ref q3033, .ref ct, .ref of, .ref dr, .ref dl]))] _ := hB.1
                have hksq : va_at D vwCl ((κ w).2.2.2, .inr (6, [.int (nI pl), .int ne, .int pa, .ref q3033, .ref ct, .ref of, .ref dr, .ref dl])) _ := hP 0 _ rfl
                have hkct := hkct.kept (hB.2.2.2.1 _ hkct.lt (by simp only [List.mem_cons, List.not_mem_nil, or_false, not_or]; exact ne_c hct.1 hsu.1 (by decide)))
                have hkof := hkof.kept (hB.2.2.2.1 _ hkof.lt (by simp only [List.mem_cons, List.not_mem_nil, or_false, not_or]; exact ne_c hof.1 hsu.1 (by decide)))
                have hkdr := hkdr.kept (hB.2.2.2.1 _ hkdr.lt (by simp only [List.mem_cons, List.not_mem_nil, or_false, not_or]; exact ne_c hdr.1 hsu.1 (by decide)))
                have hkdl := hkdl.kept (hB.2.2.2.1 _ hkdl.lt (by simp only [List.mem_cons, List.not_mem_nil, or_false, not_or]; exact ne_c hdl.1 hsu.1 (by decide)))
                have hkw := hkw.kept (hB.2.2.2.1 _ hkw.lt (by simp only [List.mem_cons, List.not_mem_nil, or_false, not_or]; exact ne_c hw.1 hsu.1 (by decide)))
                have hktx := hktx.kept (hB.2.2.2.1 _ hktx.lt (by simp only [List.mem_cons, List.not_mem_nil, or_false, not_or]; exact ne_c htx.1 hsu.1 (by decide)))
                have hkco := hkco.kept (hB.2.2.2.1 _ hkco.lt (by simp only [List.mem_cons, List.not_mem_nil, or_false, not_or]; exact ne_c hco.1 hsu.1 (by decide)))
                have hsu := t2kp (x := 1) (y := 0) (a := (κ w).2.2.2) hsu
                refine W.know (fun hg => ?_)
                rw [hH0] at hg
                exact en_i hx hb hr hlocks hL rfl (show 3 ≤ 3 by omega) (show ((0 + 2) + 616) ≤ 618 by omega) dX5_readStatement_132 (⟨_, (fun a h1 h2 => (kp_n h2).trans (hKX a h1)), hT, hF, hsu, Or.inr ⟨hmg1, by rw [kp_a], hg.mono (by omega) (by omega)⟩, Or.inl ⟨rfl, _, _, _, _, _, _, _, _, _, _, _, _, _, (stm_m_o e2822 e2841 (fun g9 => e2858 g9.1) (fun g9 => e2958 g9.1) e3008 hon.1 (by rw [← htw, ← hz3015]; exact e3022)), (by omega), (by omega), (by omega), Or.inr ⟨(fun g9 => by cases g9), _, rfl⟩, ⟨hkw, hktx, hkco⟩, ⟨hksq, hkct, hkof, hkdr, hkdl, hod⟩⟩⟩)
              · refine lv_if_ne (tgt := 109) hx hb dX5_readStatement_104 (by decide) (fun c9 => absurd (by decide) c9) (fun _ => ?_)
                refine lv_iconst (v := 0) hx hb dX5_readStatement_107 (by decide) ?_
                refine W.know (fun hg => ?_)
                rw [hH0] at hg
                exact en_i hx hb hr hlocks hL rfl (Nat.zero_le _) (Nat.zero_le _) dX5_readStatement_108 (⟨_, (fun _ _ _ => rfl), hT, hF, hsu, Or.inl ⟨rfl, hg⟩, Or.inr ⟨rfl, _, _, (stm_m_e e2822 e2841 (fun g9 => e2858 g9.1) (fun g9 => e2958 g9.1) e3008 hon.1 (by rw [← htw, ← hz3015]; exact e3030)), x3031⟩⟩)
            · refine va_getN (D := D) (ci := 6) (v := .ref a3012) (C := RX6) (T := TX6) (N := 8) hx hb hts iX5_readStatement_6 hown hN.1 hP 0 rfl rfl 3 (by decide) (hN.f 44 rfl) (fun _ h9 => h9) rfl dX5_readStatement_89 ?_
              refine lv_ifnonnull (tgt := 133) hx hb dX5_readStatement_92 (by decide) ?_
              have hon : ¬ om = none := hom.elim (fun g9 => absurd g9.2.1 (by simp)) (fun g9 => g9.1)
              refine lv_aload_n hx hb dX5_readStatement_133 rfl (lv_at hl 0 rfl) ?_
              refine lv_bipush (v := (-2)) hx hb dX5_readStatement_134 (by decide) ?_
              refine lv_aload_n hx hb dX5_readStatement_136 rfl (lv_at hl 0 rfl) ?_
              refine va_get (D := D) (ci := 5) (v := .int (nI z)) (C := RX5) (T := TX5) (N := 14) hx hb hts iX5_readStatement_5 hown hN.1 hP 1 rfl rfl 5 (by decide) (hts _ mX5_readStatement_7) (fun _ h9 => h9) rfl dX5_readStatement_137 ?_
              refine cv_i (As := [.int (-2), .int (nI z)]) (rest := []) (b := w) ⟨hx, hb, hml, hown, hts⟩ (c_X5_fail hT (w := w) hw (x := (-2)) (y := (nI z)) (by first | omega | decide | assumption) (by first | omega | decide | assumption) (by first | omega | decide | assumption) (by first | omega | decide | assumption) (by first | omega | decide | assumption) ⟨hkw, hktx, hkco⟩) (cwV 2 hts gX5_readStatement_X5_fail rfl rfl rfl hdX5_fail_v ⟨Nat.le_of_ble_eq_true rfl, Nat.le_of_ble_eq_true rfl⟩) hN hE hL (rcv6 hN hT hw.1) rfl rfl hl.1 (Nat.le_of_ble_eq_true rfl) dX5_readStatement_140 (Nat.zero_le _) (Nat.zero_le _) (fun r3036 H1 locs hL hqr3036 => ?_)
              obtain ⟨hT1, hF1, hqr3036⟩ := hqr3036
              have hP : va_P D vwCl [((κ w).2.2.2, .inr (6, [.int (nI pl), .int ne, .int pa, .ref a3012, .ref ct, .ref of, .ref dr, .ref dl]))] _ := hF1.hP (hP.sub [0] rfl) (fa_c ⟨by rw [hsu.1]; decide, by rw [hsu.2]; first | decide | (simp; done) | (simp [h15a, h15b, h15c]; done) | (simp; omega)⟩ fa_n)
              have hksq := hF1.hP (va_P.cons hksq va_P.nil) (fa_c ⟨by rw [hsu.1]; decide, by rw [hsu.2]; first | decide | (simp; done) | (simp; omega)⟩ fa_n) 0 _ rfl
              have hkct := hF1.hP (va_P.cons hkct va_P.nil) (fa_c ⟨by rw [hct.1]; decide, by rw [hct.2]; first | decide | (simp; done) | (simp; omega)⟩ fa_n) 0 _ rfl
              have hkof := hF1.hP (va_P.cons hkof va_P.nil) (fa_c ⟨by rw [hof.1]; decide, by rw [hof.2]; first | decide | (simp; done) | (simp; omega)⟩ fa_n) 0 _ rfl
              have hkdr := hF1.hP (va_P.cons hkdr va_P.nil) (fa_c ⟨by rw [hdr.1]; decide, by rw [hdr.2]; first | decide | (simp; done) | (simp; omega)⟩ fa_n) 0 _ rfl
              have hkdl := hF1.hP (va_P.cons hkdl va_P.nil) (fa_c ⟨by rw [hdl.1]; decide, by rw [hdl.2]; first | decide | (simp; done) | (simp; omega)⟩ fa_n) 0 _ rfl
              have hF := hF.tr (hF1.mono (by simp))
              have hT := hT1
              obtain ⟨rfl, m3037⟩ := hqr3036
              obtain ⟨hkw, hktx, hkco⟩ := m3037
              refine W.know (fun hg => ?_)
              rw [hH0] at hg
              exact en_i hx hb hr hlocks hL rfl (Nat.zero_le _) (Nat.zero_le _) dX5_readStatement_143 (⟨_, (fun _ _ _ => rfl), hT, hF, hsu, Or.inl ⟨rfl, hg⟩, Or.inr ⟨rfl, _, _, (stm_0 e2822 e2841 (fun g9 => e2858 g9.1) (fun g9 => e2958 g9.1) (fun g9 => hon g9.2)), ⟨_, _, _, _, _, _, _, _, (by omega), (by omega), (by omega), hkw, hktx, hkco⟩⟩⟩)
          · refine lv_if_eq (tgt := 133) hx hb dX5_readStatement_82 (by decide) (fun _ => ?_) (fun c9 => absurd (by decide) c9)
            refine lv_aload_n hx hb dX5_readStatement_133 rfl (lv_at hl 0 rfl) ?_
            refine lv_bipush (v := (-2)) hx hb dX5_readStatement_134 (by decide) ?_
            refine lv_aload_n hx hb dX5_readStatement_136 rfl (lv_at hl 0 rfl) ?_
            obtain ⟨hb3038, e3038, hat3038, hk3038⟩ := hT.o6 hw.1
            obtain ⟨f3038_0, f3038_2, f3038_3, f3038_4, f3038_5, f3038_6, f3038_7, f3038_8, f3038_9, f3038_10, f3038_11, f3038_12, f3038_13, rfl, c3038_1, c3038_2, c3038_3, c3038_5, c3038_10, t3038_0, t3038_9, c3038_11, c3038_p2⟩ := hk3038
            obtain ⟨rfl, rfl, rfl, rfl, rfl, rfl, rfl, rfl, rfl, rfl, rfl, rfl, rfl⟩ := eq6 hat3038 hkw (by omega)
            have hP : va_P D vwCl [(w, .inr (5, [.ref tx, .int (nI ((κ w).2.2.1)), .int (nI tn), .int (nI ((tkE B z))), .int (tkK B z), .int (nI z), .int (tkV B z), .int ta, .int tk, .ref co, .int (nI cc), .ref (κ w).2.2.2, .int ec, .int es]))] _ := va_P.cons hat3038 va_P.nil
            refine va_get (D := D) (ci := 5) (v := .int (nI z)) (C := RX5) (T := TX5) (N := 14) hx hb hts iX5_readStatement_5 hown hN.1 hP 0 rfl rfl 5 (by decide) (hts _ mX5_readStatement_7) (fun _ h9 => h9) rfl dX5_readStatement_137 ?_
            refine cv_i (As := [.int (-2), .int (nI z)]) (rest := []) (b := w) ⟨hx, hb, hml, hown, hts⟩ (c_X5_fail hT (w := w) hw (x := (-2)) (y := (nI z)) (by first | omega | decide | assumption) (by first | omega | decide | assumption) (by first | omega | decide | assumption) (by first | omega | decide | assumption) (by first | omega | decide | assumption) ⟨hkw, hktx, hkco⟩) (cwV 2 hts gX5_readStatement_X5_fail rfl rfl rfl hdX5_fail_v ⟨Nat.le_of_ble_eq_true rfl, Nat.le_of_ble_eq_true rfl⟩) hN hE hL (rcv6 hN hT hw.1) rfl rfl hl.1 (Nat.le_of_ble_eq_true rfl) dX5_readStatement_140 (Nat.zero_le _) (Nat.zero_le _) (fun r3039 H1 locs hL hqr3039 => ?_)
            obtain ⟨hT1, hF1, hqr3039⟩ := hqr3039
            have hksq := hF1.hP (va_P.cons hksq va_P.nil) (fa_c ⟨by rw [hsu.1]; decide, by rw [hsu.2]; first | decide | (simp; done) | (simp; omega)⟩ fa_n) 0 _ rfl
            have hkct := hF1.hP (va_P.cons hkct va_P.nil) (fa_c ⟨by rw [hct.1]; decide, by rw [hct.2]; first | decide | (simp; done) | (simp; omega)⟩ fa_n) 0 _ rfl
            have hkof := hF1.hP (va_P.cons hkof va_P.nil) (fa_c ⟨by rw [hof.1]; decide, by rw [hof.2]; first | decide | (simp; done) | (simp; omega)⟩ fa_n) 0 _ rfl
            have hkdr := hF1.hP (va_P.cons hkdr va_P.nil) (fa_c ⟨by rw [hdr.1]; decide, by rw [hdr.2]; first | decide | (simp; done) | (simp; omega)⟩ fa_n) 0 _ rfl
            have hkdl := hF1.hP (va_P.cons hkdl va_P.nil) (fa_c ⟨by rw [hdl.1]; decide, by rw [hdl.2]; first | decide | (simp; done) | (simp; omega)⟩ fa_n) 0 _ rfl
            have hF := hF.tr (hF1.mono (by simp))
            have hT := hT1
            obtain ⟨rfl, m3040⟩ := hqr3039
            obtain ⟨hkw, hktx, hkco⟩ := m3040
            refine W.know (fun hg => ?_)
            rw [hH0] at hg
            exact en_i hx hb hr hlocks hL rfl (Nat.zero_le _) (Nat.zero_le _) dX5_readStatement_143 (⟨_, (fun _ _ _ => rfl), hT, hF, hsu, Or.inl ⟨rfl, hg⟩, Or.inr ⟨rfl, _, _, (stm_0 e2822 e2841 (fun g9 => e2858 g9.1) (fun g9 => e2958 g9.1) (fun g9 => e3009 g9.1)), ⟨_, _, _, _, _, _, _, _, (by omega), (by omega), (by omega), hkw, hktx, hkco⟩⟩⟩)
