theorem mJ7_copyOf_59c91_7 : (.arrayClass .int : Cond) ∈ wsJ7_copyOf_59c91 := List.mem_of_getElem? (i := 7) (by decide +kernel)
theorem mJ7_copyOf_59c91_8 : (.methodLink RJ7 304 Lib.Math.min.name : Cond) ∈ wsJ7_copyOf_59c91 := List.mem_of_getElem? (i := 8) (by decide +kernel)
theorem mJ7_copyOf_59c91_9 : (.static Lib.Math.min.name : Cond) ∈ wsJ7_copyOf_59c91 := List.mem_of_getElem? (i := 9) (by decide +kernel)
theorem mJ7_copyOf_59c91_10 : (.initialized "java/lang/Math" : Cond) ∈ wsJ7_copyOf_59c91 := List.mem_of_getElem? (i := 10) (by decide +kernel)
theorem mJ7_copyOf_59c91_11 : (.code Lib.Math.min.name Lib.Math.min.code 2 (some .int) : Cond) ∈ wsJ7_copyOf_59c91 := List.mem_of_getElem? (i := 11) (by decide +kernel)
theorem mJ7_copyOf_59c91_12 : (.methodLink RJ7 150 arraycopyName : Cond) ∈ wsJ7_copyOf_59c91 := List.mem_of_getElem? (i := 12) (by decide +kernel)
theorem mJ7_copyOf_59c91_13 : (.native arraycopyName : Cond) ∈ wsJ7_copyOf_59c91 := List.mem_of_getElem? (i := 13) (by decide +kernel)
theorem mJ7_copyOf_59c91_14 : (.static arraycopyName : Cond) ∈ wsJ7_copyOf_59c91 := List.mem_of_getElem? (i := 14) (by decide +kernel)
theorem mJ7_copyOf_59c91_15 : (.initialized "java/lang/System" : Cond) ∈ wsJ7_copyOf_59c91 := List.mem_of_getElem? (i := 15) (by decide +kernel)
theorem mJ7_copyOf_59c91_1 : (.methodLink RJ7 316 ⟨"[I", "clone", "()Ljava/lang/Object;"⟩ : Cond) ∈ wsJ7_copyOf_59c91 := List.mem_of_getElem? (i := 1) (by decide +kernel)
theorem mJ7_copyOf_59c91_2 : (.sameMethod "[I" "java/lang/Object" "clone" "()Ljava/lang/Object;" : Cond) ∈ wsJ7_copyOf_59c91 := List.mem_of_getElem? (i := 2) (by decide +kernel)
theorem mJ7_copyOf_59c91_3 : (.native ⟨"java/lang/Object", "clone", "()Ljava/lang/Object;"⟩ : Cond) ∈ wsJ7_copyOf_59c91 := List.mem_of_getElem? (i := 3) (by decide +kernel)
theorem mJ7_copyOf_59c91_4 : (.instanceMethod ⟨"java/lang/Object", "clone", "()Ljava/lang/Object;"⟩ : Cond) ∈ wsJ7_copyOf_59c91 := List.mem_of_getElem? (i := 4) (by decide +kernel)
theorem mJ7_copyOf_59c91_5 : (.selects "[I" ⟨"[I", "clone", "()Ljava/lang/Object;"⟩ ⟨"java/lang/Object", "clone", "()Ljava/lang/Object;"⟩ : Cond) ∈ wsJ7_copyOf_59c91 := List.mem_of_getElem? (i := 5) (by decide +kernel)
theorem mJ7_copyOf_59c91_6 : (.classLink RJ7 317 "[I" : Cond) ∈ wsJ7_copyOf_59c91 := List.mem_of_getElem? (i := 6) (by decide +kernel)
set_option maxHeartbeats 4000000 in
set_option maxRecDepth 100000 in
theorem c_J7_copyOf_59c91 {l : Launch} {D : va_G} {cs : Nat → ClassId} {B0 : Nat} {H0 : Heap} {v n : Nat} {g : Nat → Int32} (hvb : B0 ≤ v) (hva : va_at D vwCl (v, .inl (cs 0, 600, .inl g)) H0) (hn : n ≤ 600) : KC l yJ7_copyOf_59c91 wsJ7_copyOf_59c91 1 60 1 600 D cs B0 H0 [.ref v, .int (nI n)] (Qr (fun r H => r = H0.size ∧ H.size = r + 1 ∧ (∀ x, x < r → H[x]? = H0[x]?) ∧ ∃ f, va_at D vwCl (r, .inl (cs 0, n, .inl f)) H)) := by
  refine KC.of cJ7_copyOf_59c91 3 (some (.array .int)) (by decide) rfl (Nat.le_of_ble_eq_true rfl) ?_
  intro p e s m below meth c ls hx hb hr hml hown hts hlocks hin hN hE hH0 hl
  have hown : s.vm.findClass RJ7 = some m.cls := hown
  have hl : lv_has ls 3 [(0, .ref v), (1, .int (nI n))] := hl
  have hL : OkL B0 [] := OkL.nil
  have hP : va_P D vwCl [(v, .inl (cs 0, 600, .inl g))] _ := va_P.cons hva va_P.nil
  have hb0 : B0 ≤ H0.size := Nat.le_trans hvb (Nat.le_of_lt hva.lt)
  refine lv_iload_n hx hb dJ7_copyOf_59c91_0 rfl (lv_at hl 1 rfl) ?_
  refine lv_aload_n hx hb dJ7_copyOf_59c91_1 rfl (lv_at hl 0 rfl) ?_
  refine va_alen (v := 600) hx hb hN.1 hP 0 0 rfl rfl rfl dJ7_copyOf_59c91_2 ?_
  refine lv_icmp_ne (tgt := 14) hx hb dJ7_copyOf_59c91_3 (by decide) (fun c2058 => ?_) (fun c2058 => ?_)
  · have c2058 : ¬ n = 600 := fun h9 => c2058 ((nI_eq (a := n) (b := 600) (by omega) (by omega)).mpr h9)
    refine lv_iload_n hx hb dJ7_copyOf_59c91_14 rfl (lv_at hl 1 rfl) ?_
    have hB : Bx B0 D _ [(v, .inl (cs 0, 600, .inl g))] [] _ _ := Bx.of (fun a => a) hL hP (fa_c hvb fa_n) (by simp)
    refine nw_a (atype := .int) (ty := .int) (N' := n) (a0 := (n, .inl (fun _ => 0))) 0 hN rfl hx hb (hts _ mJ7_copyOf_59c91_7) rfl (fun _ => rfl) (nI_pos (n := n) (by omega)) (nI_clamp (n := n) (by omega)) (show n * _ ≤ _ by simp only [componentBytes]; omega) (show 0 + 1 ≤ 1 by omega) (show 0 + n ≤ 600 by omega) dJ7_copyOf_59c91_15 (fun q2059 H heq2059 hzq2059 hoq2059 hatq2059 => ?_)
    have hB := hB.nwm heq2059 hzq2059 hoq2059 hatq2059 hb0
    have hB : Bx B0 D _ [(v, .inl (cs 0, 600, .inl g)), (q2059, .inl (cs 0, n, .inl (fun _ => 0)))] [q2059] _ _ := hB
    refine lv_astore_n (lv' := [(2, .ref q2059), (0, .ref v), (1, .int (nI n))]) hx hb dJ7_copyOf_59c91_17 rfl hl (by decide) rfl (fun ls hl => ?_)
    refine lv_aload_n hx hb dJ7_copyOf_59c91_18 rfl (lv_at hl 1 rfl) ?_
    refine lv_iconst (v := 0) hx hb dJ7_copyOf_59c91_19 (by decide) ?_
    refine lv_aload_n hx hb dJ7_copyOf_59c91_20 rfl (lv_at hl 0 rfl) ?_
    refine lv_iconst (v := 0) hx hb dJ7_copyOf_59c91_21 (by decide) ?_
    refine lv_aload_n hx hb dJ7_copyOf_59c91_22 rfl (lv_at hl 1 rfl) ?_
    refine va_alen (v := 600) hx hb hN.1 hB.1 0 0 rfl rfl rfl dJ7_copyOf_59c91_23 ?_
    refine lv_iload_n hx hb dJ7_copyOf_59c91_24 rfl (lv_at hl 2 rfl) ?_
    refine va_mmin hx hb (hml.trans hl.1.symm) hown (hts _ mJ7_copyOf_59c91_8) (hts _ mJ7_copyOf_59c91_9) (hts _ mJ7_copyOf_59c91_10) (hts _ mJ7_copyOf_59c91_11) (Nat.le_of_ble_eq_true rfl) (Nat.le_of_ble_eq_true rfl) (show 1 ≤ 1 by omega) (show (0 + n) ≤ 600 by omega) dJ7_copyOf_59c91_25 ?_
    obtain ⟨m2060, hm2060, em2060⟩ := nI_min (a := 600) (b := n) (by omega) (by omega)
    refine tp_i (nI m2060) em2060 ?_
    refine b_cpy hx hb (hml.trans hl.1.symm) hown (hts _ mJ7_copyOf_59c91_12) (hts _ mJ7_copyOf_59c91_13) (hts _ mJ7_copyOf_59c91_14) (hts _ mJ7_copyOf_59c91_15) hN hB 0 1 rfl rfl (nI_pos (n := 0) (by omega)) (nI_pos (n := 0) (by omega)) (nI_pos (n := m2060) (by omega)) (by rw [show (0 : Int32).toNatClampNeg = 0 from nI_clamp (n := 0) (by omega), show ((nI m2060) : Int32).toNatClampNeg = m2060 from nI_clamp (n := m2060) (by omega)]; omega) (by rw [show (0 : Int32).toNatClampNeg = 0 from nI_clamp (n := 0) (by omega), show ((nI m2060) : Int32).toNatClampNeg = m2060 from nI_clamp (n := m2060) (by omega)]; omega) (.inr ⟨rfl, List.mem_of_getElem? (i := 0) rfl⟩) (Nat.le_of_ble_eq_true rfl) (Nat.le_of_ble_eq_true rfl) dJ7_copyOf_59c91_28 (fun H locs hB => ?_)
    generalize va_cpy _ _ _ _ _ = g2061 at hB
    have hB : Bx B0 D _ [(v, .inl (cs 0, 600, .inl g)), (q2059, .inl (cs 0, n, .inl g2061))] [q2059] _ _ := hB
    refine lv_aload_n hx hb dJ7_copyOf_59c91_31 rfl (lv_at hl 0 rfl) ?_
    have hL : OkL B0 _ := hB.2.2.2.2.2
    refine W.know (fun hg => ?_)
    rw [hH0] at hg
    exact en_r hx hb hr hlocks (by first | exact Or.inl ⟨_, rfl⟩ | exact Or.inr ⟨_, rfl⟩) hL (show 1 ≤ 1 by omega) (show (0 + n) ≤ 600 by omega) dJ7_copyOf_59c91_32 (⟨heq2059, (by have h1 := hg.2.1; have h2 := (hB.1 1 _ rfl).lt; have h2 : q2059 < _ := h2; omega), (fun x hx9 => hB.2.2.2.1 x (by omega) (by simp; omega)), _, hB.1 1 _ rfl⟩)
  · have c2058 : n = 600 := (nI_eq (a := n) (b := 600) (by omega) (by omega)).mp c2058
    refine lv_aload_n hx hb dJ7_copyOf_59c91_6 rfl (lv_at hl 0 rfl) ?_
    refine nw_cl hx hb (hml.trans hl.1.symm) hown (hts _ mJ7_copyOf_59c91_1) (hts _ mJ7_copyOf_59c91_2) (hts _ mJ7_copyOf_59c91_3) (hts _ mJ7_copyOf_59c91_4) (hts _ mJ7_copyOf_59c91_5) hN (hP 0 _ rfl) (Nat.le_of_ble_eq_true rfl) (Nat.le_of_ble_eq_true rfl) (show 0 + 1 ≤ 1 by omega) (show 0 + 600 ≤ 600 by omega) dJ7_copyOf_59c91_7 (fun q2062 H heq2062 hzq2062 hoq2062 hatq2062 => ?_)
    refine nw_ca hx hb hown (hts _ mJ7_copyOf_59c91_6) hN hatq2062 dJ7_copyOf_59c91_10 ?_
    refine W.know (fun hg => ?_)
    rw [hH0] at hg
    obtain rfl : n = 600 := c2058
    exact en_r hx hb hr hlocks (by first | exact Or.inl ⟨_, rfl⟩ | exact Or.inr ⟨_, rfl⟩) hL (show 1 ≤ 1 by omega) (show (0 + 600) ≤ 600 by omega) dJ7_copyOf_59c91_13 (⟨heq2062, hzq2062, hoq2062, _, hatq2062⟩)
theorem mX0_init_1 : (.methodLink RX0 1 objectInit : Cond) ∈ wsX0_init := List.mem_of_getElem? (i := 1) (by decide +kernel)
theorem mX0_init_2 : (.instanceMethod objectInit : Cond) ∈ wsX0_init := List.mem_of_getElem? (i := 2) (by decide +kernel)
theorem mX0_init_3 : (.code objectInit ⟨#[0xb1]⟩ 1 none : Cond) ∈ wsX0_init := List.mem_of_getElem? (i := 3) (by decide +kernel)
theorem mX0_init_4 : (.arrayClass .int : Cond) ∈ wsX0_init := List.mem_of_getElem? (i := 4) (by decide +kernel)
theorem mX0_init_5 : (.fieldLink RX0 9 "OneBeat$Formula" "stack" "[I" : Cond) ∈ wsX0_init := List.mem_of_getElem? (i := 5) (by decide +kernel)
theorem iX0_init_0 : ∀ w ∈ wsX00, w ∈ wsX0_init := fun w h => List.mem_of_mem_drop (List.mem_of_mem_take ((show wsX00 = (wsX0_init.drop 25).take 2 by decide +kernel) ▸ h))
theorem hdJ7_copyOf_59c91_o : yJ7_copyOf_59c91.cls ≠ "java/lang/invoke/MethodHandle" ∧ yJ7_copyOf_59c91.cls ≠ "java/lang/invoke/VarHandle" ∧ (parseMethodDescriptor yJ7_copyOf_59c91.desc).map (fun d => d.parameters.length) = some 2 := by decide +kernel
theorem mX0_init_6 : (.fieldLink RX0 19 "OneBeat$Formula" "codes" "[I" : Cond) ∈ wsX0_init := List.mem_of_getElem? (i := 6) (by decide +kernel)
set_option maxHeartbeats 4000000 in
set_option maxRecDepth 100000 in
theorem c_X0_init {l : Launch} {D : va_G} {cs : Nat → ClassId} {B0 T : Nat} {κ : KM} {H0 : Heap} (hT : WT B0 D cs T κ H0) {w : Nat} (hfw : (κ w).1 = 0) (hwb : B0 ≤ w) (hwa : va_at D vwCl (w, .inr (0, [.null, .null])) H0) {v n : Nat} (hv : T2 κ v 17 10) (hn : n ≤ 600) : KC l yX0_init wsX0_init 2 82 2 616 D cs B0 H0 [.ref w, .ref v, .int (nI n)] (Qv (fun H => ∃ κ1, KX κ κ1 ∧ WT B0 D cs T κ1 H ∧ Fr B0 [] κ H0 H ∧ T2 κ1 w 1 15)) := by
  refine KC.of cX0_init 3 none (by decide) rfl (Nat.le_of_ble_eq_true rfl) ?_
  intro p e s m below meth c ls hx hb hr hml hown hts hlocks hin hN hE hH0 hl
  have hown : s.vm.findClass RX0 = some m.cls := hown
  have hl : lv_has ls 3 [(0, .ref w), (1, .ref v), (2, .int (nI n))] := hl
  have hL : OkL B0 [] := OkL.nil
  have hF : Fr B0 [] κ H0 H0 := Fr.rf
  have hP : va_P D vwCl [(w, .inr (0, [.null, .null]))] _ := va_P.cons hwa va_P.nil
  have hb0 : B0 ≤ H0.size := Nat.le_trans hwb (Nat.le_of_lt hwa.lt)
  refine lv_aload_n hx hb dX0_init_0 rfl (lv_at hl 0 rfl) ?_
  refine W.objInit hx hb hown (hts _ mX0_init_1) (hts _ mX0_init_2) (hts _ mX0_init_3) rfl (by rw [hml]; exact hl.1) rfl dX0_init_1 (Nat.le_of_ble_eq_true rfl) (Nat.le_of_ble_eq_true rfl) ?_
  refine W.eq (g2 := F0 m 4 ls []) rfl ?_
  refine lv_aload_n hx hb dX0_init_4 rfl (lv_at hl 0 rfl) ?_
  refine lv_bipush (v := 16) hx hb dX0_init_5 (by decide) ?_
  have hB : Bx B0 D _ [(w, .inr (0, [.null, .null]))] [] _ _ := Bx.of (fun a => (κ a).1) hL hP (fa_c hwb fa_n) (by simp only [List.map_cons, List.map_nil, hfw]; decide)
  refine nw_a (atype := .int) (ty := .int) (N' := 16) (a0 := (16, .inl (fun _ => 0))) 0 hN rfl hx hb (hts _ mX0_init_4) rfl (fun _ => rfl) (nI_pos (n := 16) (by omega)) (nI_clamp (n := 16) (by omega)) (show 16 * _ ≤ _ by simp only [componentBytes]; omega) (show 0 + 1 ≤ 2 by omega) (show 0 + 16 ≤ 616 by omega) dX0_init_7 (fun q2063 H heq2063 hzq2063 hoq2063 hatq2063 => ?_)
  have hgeq2063 : _ ≤ q2063 := Nat.le_trans hB.2.2.1 (Nat.le_of_eq heq2063.symm)
  have hbq2063 : B0 ≤ q2063 := Nat.le_trans hb0 hgeq2063
  have hfq2063 : (κ q2063).1 = 0 := hT.fresh hgeq2063
  have hB := hB.nwm heq2063 hzq2063 hoq2063 hatq2063 hb0
  have hB : Bx B0 D _ [(w, .inr (0, [.null, .null])), (q2063, .inl (cs 0, 16, .inl (fun _ => 0)))] [q2063] _ _ := hB
  refine b_putF (D := D) (ci := 0) (v := .ref q2063) (ty := .array .int) (C := RX0) (T := TX0) (N := 2) hx hb hts iX0_init_0 tyX0 tyX0_ok nmX0 hown hN hB 0 rfl rfl 1 (by decide) (hts _ mX0_init_5) (fun _ h9 => h9) rfl hin rfl (by decide +kernel) rfl rfl (Nat.le_of_ble_eq_true rfl) (.inl rfl) dX0_init_9 (fun H locs hB => ?_)
  have hB : Bx B0 D _ [(w, .inr (0, [.null, .ref q2063])), (q2063, .inl (cs 0, 16, .inl (fun _ => 0)))] [w, q2063] _ _ := hB
  refine lv_aload_n hx hb dX0_init_12 rfl (lv_at hl 0 rfl) ?_
  refine lv_aload_n hx hb dX0_init_13 rfl (lv_at hl 1 rfl) ?_
  refine lv_iload_n hx hb dX0_init_14 rfl (lv_at hl 2 rfl) ?_
  refine lv_if_ge (tgt := 22) hx hb dX0_init_15 (by decide) (fun c2064 => ?_) (fun c2064 => ?_)
  · have c2064 : 0 ≤ n := (nI_leI (a := 0) (b := n) (by omega) (by omega)).mp c2064
    refine lv_iload_n hx hb dX0_init_22 rfl (lv_at hl 2 rfl) ?_
    obtain ⟨hb2065, e2065, hat2065, hk2065⟩ := hT.o17 hv.1
    obtain ⟨g2065, rfl⟩ := hk2065
    have hB : Bx B0 D _ [(w, .inr (0, [.null, .ref q2063])), (q2063, .inl (cs 0, 16, .inl (fun _ => 0))), (v, .inl (cs 0, 600, .inl g2065))] [w, q2063] _ _ := hB.more hat2065 hb2065 (fa_c (ne_c hfw hv.1 (by decide))  (fa_c (nw_ne hat2065 hgeq2063) fa_n)) (fa_c (ne_c hfw hv.1 (by decide))  (fa_c (nw_ne hat2065 hgeq2063) fa_n))
    have hL : OkL B0 _ := hB.2.2.2.2.2
    refine cs_r (As := [.ref v, .int (nI n)]) (rest := [.ref w]) ⟨hx, hb, hml, hown, hts⟩ (c_J7_copyOf_59c91 (v := v) (n := n) hb2065 (hB.1 2 _ rfl) (by omega)) (va_cwS 2 hts gX0_init_J7_copyOf_59c91 rfl rfl rfl hdJ7_copyOf_59c91_o ⟨Nat.le_of_ble_eq_true rfl, Nat.le_of_ble_eq_true rfl⟩) hN hE hL rfl rfl hl.1 (Nat.le_of_ble_eq_true rfl) dX0_init_23 (show 1 + 1 ≤ 2 by omega) (show (0 + 16) + 600 ≤ 616 by omega) (fun q2066 H1 locs hL hqq2066 => ?_)
    obtain ⟨heq2066, hzq2066, hoq2066, gq2066, hatq2066⟩ := hqq2066
    have hB := hB.lc hL
    have hgeq2066 : _ ≤ q2066 := Nat.le_trans hB.2.2.1 (Nat.le_of_eq heq2066.symm)
    have hbq2066 : B0 ≤ q2066 := Nat.le_trans hb0 hgeq2066
    have hfq2066 : (κ q2066).1 = 0 := hT.fresh hgeq2066
    have hB := hB.nwm heq2066 hzq2066 hoq2066 hatq2066 hb0
    have hB : Bx B0 D _ [(w, .inr (0, [.null, .ref q2063])), (q2063, .inl (cs 0, 16, .inl (fun _ => 0))), (v, .inl (cs 0, 600, .inl g2065)), (q2066, .inl (cs 0, n, .inl gq2066))] [q2066, w, q2063] _ _ := hB
    refine b_putF (D := D) (ci := 0) (v := .ref q2066) (ty := .array .int) (C := RX0) (T := TX0) (N := 2) hx hb hts iX0_init_0 tyX0 tyX0_ok nmX0 hown hN hB 0 rfl rfl 0 (by decide) (hts _ mX0_init_6) (fun _ h9 => h9) rfl hin rfl (by decide +kernel) rfl rfl (Nat.le_of_ble_eq_true rfl) (.inr ⟨rfl, List.mem_of_getElem? (i := 1) rfl⟩) dX0_init_26 (fun H locs hB => ?_)
    have hB : Bx B0 D _ [(w, .inr (0, [.ref q2066, .ref q2063])), (q2063, .inl (cs 0, 16, .inl (fun _ => 0))), (v, .inl (cs 0, 600, .inl g2065)), (q2066, .inl (cs 0, n, .inl gq2066))] [q2066, w, q2063] _ _ := hB
    obtain ⟨κ2067, hκ2067⟩ : ∃ κ9 : KM, κ9 = (ku (ku (ku κ w (1, 15, 0, 0)) q2063 (22, 16, 0, 0)) q2066 (21, 15, 0, 0)) := ⟨_, rfl⟩
    have hx2067 : KX κ κ2067 := by rw [hκ2067]; exact (((KX.ku hfw).tr (KX.ku (by rw [ku_n (fun e9 => absurd (hB.2.1.1 1 0 _ _ rfl rfl e9) (by decide))]; exact hfq2063))).tr (KX.ku (by rw [ku_n (fun e9 => absurd (hB.2.1.1 3 1 _ _ rfl rfl e9) (by decide)), ku_n (fun e9 => absurd (hB.2.1.1 3 0 _ _ rfl rfl e9) (by decide))]; exact hfq2066)))
    have ew : κ2067 w = (1, 15, 0, 0) := by rw [hκ2067, ku_n (fun e9 => absurd (hB.2.1.1 0 3 _ _ rfl rfl e9) (by decide)), ku_n (fun e9 => absurd (hB.2.1.1 0 1 _ _ rfl rfl e9) (by decide)), ku_a]
    have hw : T2 κ2067 w 1 15 := ⟨by rw [ew], by rw [ew]⟩
    have eq2063 : κ2067 q2063 = (22, 16, 0, 0) := by rw [hκ2067, ku_n (fun e9 => absurd (hB.2.1.1 1 3 _ _ rfl rfl e9) (by decide)), ku_a]
    have hq2063 : T2 κ2067 q2063 22 16 := ⟨by rw [eq2063], by rw [eq2063]⟩
    have eq2066 : κ2067 q2066 = (21, 15, 0, 0) := by rw [hκ2067, ku_a]
    have hq2066 : T2 κ2067 q2066 21 15 := ⟨by rw [eq2066], by rw [eq2066]⟩
    have hx9 := hx2067
    have hT : WT B0 D cs T κ2067 _ := hT.closeN hB hx2067 (fun a9 h9 => by rw [hκ2067, ku_n (fun e9 => h9 (by rw [e9]; exact List.mem_of_getElem? (i := 0) rfl)), ku_n (fun e9 => h9 (by rw [e9]; exact List.mem_of_getElem? (i := 2) rfl)), ku_n (fun e9 => h9 (by rw [e9]; exact List.mem_of_getElem? (i := 1) rfl))]) ⟨⟨3, _, rfl, ok_21 hq2066.1 ⟨_, _, rfl, (by omega)⟩⟩, ⟨⟨0, _, rfl, ok_1 hw.1 ⟨_, _, rfl, hq2066, hq2063⟩⟩, ⟨⟨1, _, rfl, ok_22 hq2063.1 ⟨_, rfl⟩⟩, trivial⟩⟩⟩
    have hF : Fr B0 [] κ H0 _ := hF.closeN hB (fa_c (fun h9 => absurd hfq2066 h9) (fa_c (fun h9 => absurd hfw h9) (fa_c (fun h9 => absurd hfq2063 h9) fa_n)))
    have hL : OkL B0 _ := hB.2.2.2.2.2
    have hKF : KF κ κ2067 := hx2067.f
    have hKX : KX κ κ2067 := hx2067
    have hv := (hx2067.f.t2 hv (by decide))
    have hP : va_P D vwCl [(w, .inr (0, [.ref q2066, .ref q2063])), (q2063, .inl (cs 0, 16, .inl (fun _ => 0))), (v, .inl (cs 0, 600, .inl g2065)), (q2066, .inl (cs 0, n, .inl gq2066))] _ := hB.1
    exact en_v hx hb hr hlocks hL (show 2 ≤ 2 by omega) (show ((0 + 16) + 600) ≤ 616 by omega) dX0_init_29 (⟨_, hKX, hT, hF, hw⟩)
  · have c2064 : ¬ 0 ≤ n := fun h9 => c2064 ((nI_leI (a := 0) (b := n) (by omega) (by omega)).mpr h9)
    refine lv_iconst (v := 0) hx hb dX0_init_18 (by decide) ?_
    refine lv_goto (tgt := 23) hx hb dX0_init_19 (by decide) ?_
    obtain ⟨hb2068, e2068, hat2068, hk2068⟩ := hT.o17 hv.1
    obtain ⟨g2068, rfl⟩ := hk2068
    have hB : Bx B0 D _ [(w, .inr (0, [.null, .ref q2063])), (q2063, .inl (cs 0, 16, .inl (fun _ => 0))), (v, .inl (cs 0, 600, .inl g2068))] [w, q2063] _ _ := hB.more hat2068 hb2068 (fa_c (ne_c hfw hv.1 (by decide))  (fa_c (nw_ne hat2068 hgeq2063) fa_n)) (fa_c (ne_c hfw hv.1 (by decide))  (fa_c (nw_ne hat2068 hgeq2063) fa_n))
    have hL : OkL B0 _ := hB.2.2.2.2.2
    refine cs_r (As := [.ref v, .int 0]) (rest := [.ref w]) ⟨hx, hb, hml, hown, hts⟩ (c_J7_copyOf_59c91 (v := v) (n := 0) hb2068 (hB.1 2 _ rfl) (by omega)) (va_cwS 2 hts gX0_init_J7_copyOf_59c91 rfl rfl rfl hdJ7_copyOf_59c91_o ⟨Nat.le_of_ble_eq_true rfl, Nat.le_of_ble_eq_true rfl⟩) hN hE hL rfl rfl hl.1 (Nat.le_of_ble_eq_true rfl) dX0_init_23 (show 1 + 1 ≤ 2 by omega) (show (0 + 16) + 600 ≤ 616 by omega) (fun q2069 H1 locs hL hqq2069 => ?_)
    obtain ⟨heq2069, hzq2069, hoq2069, gq2069, hatq2069⟩ := hqq2069
    have hB := hB.lc hL
    have hgeq2069 : _ ≤ q2069 := Nat.le_trans hB.2.2.1 (Nat.le_of_eq heq2069.symm)
    have hbq2069 : B0 ≤ q2069 := Nat.le_trans hb0 hgeq2069
    have hfq2069 : (κ q2069).1 = 0 := hT.fresh hgeq2069
    have hB := hB.nwm heq2069 hzq2069 hoq2069 hatq2069 hb0
    have hB : Bx B0 D _ [(w, .inr (0, [.null, .ref q2063])), (q2063, .inl (cs 0, 16, .inl (fun _ => 0))), (v, .inl (cs 0, 600, .inl g2068)), (q2069, .inl (cs 0, 0, .inl gq2069))] [q2069, w, q2063] _ _ := hB
    refine b_putF (D := D) (ci := 0) (v := .ref q2069) (ty := .array .int) (C := RX0) (T := TX0) (N := 2) hx hb hts iX0_init_0 tyX0 tyX0_ok nmX0 hown hN hB 0 rfl rfl 0 (by decide) (hts _ mX0_init_6) (fun _ h9 => h9) rfl hin rfl (by decide +kernel) rfl rfl (Nat.le_of_ble_eq_true rfl) (.inr ⟨rfl, List.mem_of_getElem? (i := 1) rfl⟩) dX0_init_26 (fun H locs hB => ?_)
    have hB : Bx B0 D _ [(w, .inr (0, [.ref q2069, .ref q2063])), (q2063, .inl (cs 0, 16, .inl (fun _ => 0))), (v, .inl (cs 0, 600, .inl g2068)), (q2069, .inl (cs 0, 0, .inl gq2069))] [q2069, w, q2063] _ _ := hB
    obtain ⟨κ2070, hκ2070⟩ : ∃ κ9 : KM, κ9 = (ku (ku (ku κ w (1, 15, 0, 0)) q2063 (22, 16, 0, 0)) q2069 (21, 15, 0, 0)) := ⟨_, rfl⟩
    have hx2070 : KX κ κ2070 := by rw [hκ2070]; exact (((KX.ku hfw).tr (KX.ku (by rw [ku_n (fun e9 => absurd (hB.2.1.1 1 0 _ _ rfl rfl e9) (by decide))]; exact hfq2063))).tr (KX.ku (by rw [ku_n (fun e9 => absurd (hB.2.1.1 3 1 _ _ rfl rfl e9) (by decide)), ku_n (fun e9 => absurd (hB.2.1.1 3 0 _ _ rfl rfl e9) (by decide))]; exact hfq2069)))
    have ew : κ2070 w = (1, 15, 0, 0) := by rw [hκ2070, ku_n (fun e9 => absurd (hB.2.1.1 0 3 _ _ rfl rfl e9) (by decide)), ku_n (fun e9 => absurd (hB.2.1.1 0 1 _ _ rfl rfl e9) (by decide)), ku_a]
    have hw : T2 κ2070 w 1 15 := ⟨by rw [ew], by rw [ew]⟩
    have eq2063 : κ2070 q2063 = (22, 16, 0, 0) := by rw [hκ2070, ku_n (fun e9 => absurd (hB.2.1.1 1 3 _ _ rfl rfl e9) (by decide)), ku_a]
    have hq2063 : T2 κ2070 q2063 22 16 := ⟨by rw [eq2063], by rw [eq2063]⟩
    have eq2069 : κ2070 q2069 = (21, 15, 0, 0) := by rw [hκ2070, ku_a]
    have hq2069 : T2 κ2070 q2069 21 15 := ⟨by rw [eq2069], by rw [eq2069]⟩
    have hx9 := hx2070
    have hT : WT B0 D cs T κ2070 _ := hT.closeN hB hx2070 (fun a9 h9 => by rw [hκ2070, ku_n (fun e9 => h9 (by rw [e9]; exact List.mem_of_getElem? (i := 0) rfl)), ku_n (fun e9 => h9 (by rw [e9]; exact List.mem_of_getElem? (i := 2) rfl)), ku_n (fun e9 => h9 (by rw [e9]; exact List.mem_of_getElem? (i := 1) rfl))]) ⟨⟨3, _, rfl, ok_21 hq2069.1 ⟨_, _, rfl, (by omega)⟩⟩, ⟨⟨0, _, rfl, ok_1 hw.1 ⟨_, _, rfl, hq2069, hq2063⟩⟩, ⟨⟨1, _, rfl, ok_22 hq2063.1 ⟨_, rfl⟩⟩, trivial⟩⟩⟩
    have hF : Fr B0 [] κ H0 _ := hF.closeN hB (fa_c (fun h9 => absurd hfq2069 h9) (fa_c (fun h9 => absurd hfw h9) (fa_c (fun h9 => absurd hfq2063 h9) fa_n)))
    have hL : OkL B0 _ := hB.2.2.2.2.2
    have hKF : KF κ κ2070 := hx2070.f
    have hKX : KX κ κ2070 := hx2070
    have hv := (hx2070.f.t2 hv (by decide))
    have hP : va_P D vwCl [(w, .inr (0, [.ref q2069, .ref q2063])), (q2063, .inl (cs 0, 16, .inl (fun _ => 0))), (v, .inl (cs 0, 600, .inl g2068)), (q2069, .inl (cs 0, 0, .inl gq2069))] _ := hB.1
    exact en_v hx hb hr hlocks hL (show 2 ≤ 2 by omega) (show ((0 + 16) + 600) ≤ 616 by omega) dX0_init_29 (⟨_, hKX, hT, hF, hw⟩)
theorem mX6_init_1 : (.methodLink RX6 1 objectInit : Cond) ∈ wsX6_init := List.mem_of_getElem? (i := 1) (by decide +kernel)
theorem mX6_init_2 : (.instanceMethod objectInit : Cond) ∈ wsX6_init := List.mem_of_getElem? (i := 2) (by decide +kernel)
theorem mX6_init_3 : (.code objectInit ⟨#[0xb1]⟩ 1 none : Cond) ∈ wsX6_init := List.mem_of_getElem? (i := 3) (by decide +kernel)
theorem mX6_init_4 : (.arrayClass .boolean : Cond) ∈ wsX6_init := List.mem_of_getElem? (i := 4) (by decide +kernel)
theorem mX6_init_5 : (.fieldLink RX6 9 "OneBeat$Setup" "isClockTold" "[Z" : Cond) ∈ wsX6_init := List.mem_of_getElem? (i := 5) (by decide +kernel)
theorem iX6_init_6 : ∀ w ∈ wsX60, w ∈ wsX6_init := fun w h => List.mem_of_mem_drop (List.mem_of_mem_take ((show wsX60 = (wsX6_init.drop 11).take 8 by decide +kernel) ▸ h))
theorem mX6_init_6 : (.arrayClass .int : Cond) ∈ wsX6_init := List.mem_of_getElem? (i := 6) (by decide +kernel)
theorem mX6_init_7 : (.fieldLink RX6 13 "OneBeat$Setup" "offset" "[I" : Cond) ∈ wsX6_init := List.mem_of_getElem? (i := 7) (by decide +kernel)
theorem mX6_init_8 : (.fieldLink RX6 17 "OneBeat$Setup" "drift" "[I" : Cond) ∈ wsX6_init := List.mem_of_getElem? (i := 8) (by decide +kernel)
theorem mX6_init_9 : (.fieldLink RX6 20 "OneBeat$Setup" "delay" "[I" : Cond) ∈ wsX6_init := List.mem_of_getElem? (i := 9) (by decide +kernel)
theorem mX6_init_10 : (.fieldLink RX6 23 "OneBeat$Setup" "players" "I" : Cond) ∈ wsX6_init := List.mem_of_getElem? (i := 10) (by decide +kernel)
set_option maxHeartbeats 4000000 in
set_option maxRecDepth 100000 in
theorem c_X6_init {l : Launch} {D : va_G} {cs : Nat → ClassId} {B0 T : Nat} {κ : KM} {H0 : Heap} (hT : WT B0 D cs T κ H0) {w : Nat} (hfw : (κ w).1 = 0) (hwb : B0 ≤ w) (hwa : va_at D vwCl (w, .inr (6, [.int 0, .int 0, .int 0, .null, .null, .null, .null, .null])) H0) {n : Nat} (hn : n ≤ 8) : KC l yX6_init wsX6_init 1 20 4 88 D cs B0 H0 [.ref w, .int (nI n)] (Qv (fun H => ∃ κ1, KX κ κ1 ∧ WT B0 D cs T κ1 H ∧ Fr B0 [] κ H0 H ∧ T2 κ1 w 7 11 ∧ κ1 w = (7, 11, 0, 0))) := by
  refine KC.of cX6_init 2 none (by decide) rfl (Nat.le_of_ble_eq_true rfl) ?_
  intro p e s m below meth c ls hx hb hr hml hown hts hlocks hin hN hE hH0 hl
  have hown : s.vm.findClass RX6 = some m.cls := hown
  have hl : lv_has ls 2 [(0, .ref w), (1, .int (nI n))] := hl
  have hL : OkL B0 [] := OkL.nil
  have hF : Fr B0 [] κ H0 H0 := Fr.rf
  have hP : va_P D vwCl [(w, .inr (6, [.int 0, .int 0, .int 0, .null, .null, .null, .null, .null]))] _ := va_P.cons hwa va_P.nil
  have hb0 : B0 ≤ H0.size := Nat.le_trans hwb (Nat.le_of_lt hwa.lt)
  refine lv_aload_n hx hb dX6_init_0 rfl (lv_at hl 0 rfl) ?_
  refine W.objInit hx hb hown (hts _ mX6_init_1) (hts _ mX6_init_2) (hts _ mX6_init_3) rfl (by rw [hml]; exact hl.1) rfl dX6_init_1 (Nat.le_of_ble_eq_true rfl) (Nat.le_of_ble_eq_true rfl) ?_
  refine W.eq (g2 := F0 m 4 ls []) rfl ?_
  refine lv_aload_n hx hb dX6_init_4 rfl (lv_at hl 0 rfl) ?_
  refine lv_bipush (v := 8) hx hb dX6_init_5 (by decide) ?_
  have hB : Bx B0 D _ [(w, .inr (6, [.int 0, .int 0, .int 0, .null, .null, .null, .null, .null]))] [] _ _ := Bx.of (fun a => (κ a).1) hL hP (fa_c hwb fa_n) (by simp only [List.map_cons, List.map_nil, hfw]; decide)
  refine nw_a (atype := .boolean) (ty := .boolean) (N' := 8) (a0 := (8, .inl (fun _ => 0))) 2 hN rfl hx hb (hts _ mX6_init_4) rfl (fun _ => rfl) (nI_pos (n := 8) (by omega)) (nI_clamp (n := 8) (by omega)) (show 8 * _ ≤ _ by simp only [componentBytes]; omega) (show 0 + 1 ≤ 4 by omega) (show 0 + 8 ≤ 88 by omega) dX6_init_7 (fun q2071 H heq2071 hzq2071 hoq2071 hatq2071 => ?_)
  have hgeq2071 : _ ≤ q2071 := Nat.le_trans hB.2.2.1 (Nat.le_of_eq heq2071.symm)
  have hbq2071 : B0 ≤ q2071 := Nat.le_trans hb0 hgeq2071
  have hfq2071 : (κ q2071).1 = 0 := hT.fresh hgeq2071
  have hB := hB.nwm heq2071 hzq2071 hoq2071 hatq2071 hb0
  have hB : Bx B0 D _ [(w, .inr (6, [.int 0, .int 0, .int 0, .null, .null, .null, .null, .null])), (q2071, .inl (cs 2, 8, .inl (fun _ => 0)))] [q2071] _ _ := hB
  refine b_putF (D := D) (ci := 6) (v := .ref q2071) (ty := .array .boolean) (C := RX6) (T := TX6) (N := 8) hx hb hts iX6_init_6 tyX6 tyX6_ok nmX6 hown hN hB 0 rfl rfl 4 (by decide) (hts _ mX6_init_5) (fun _ h9 => h9) rfl hin rfl (by decide +kernel) rfl rfl (Nat.le_of_ble_eq_true rfl) (.inl rfl) dX6_init_9 (fun H locs hB => ?_)
  have hB : Bx B0 D _ [(w, .inr (6, [.int 0, .int 0, .int 0, .null, .ref q2071, .null, .null, .null])), (q2071, .inl (cs 2, 8, .inl (fun _ => 0)))] [w, q2071] _ _ := hB
  refine lv_aload_n hx hb dX6_init_12 rfl (lv_at hl 0 rfl) ?_
  refine lv_bipush (v := 8) hx hb dX6_init_13 (by decide) ?_
  refine nw_a (atype := .int) (ty := .int) (N' := 8) (a0 := (8, .inl (fun _ => 0))) 0 hN rfl hx hb (hts _ mX6_init_6) rfl (fun _ => rfl) (nI_pos (n := 8) (by omega)) (nI_clamp (n := 8) (by omega)) (show 8 * _ ≤ _ by simp only [componentBytes]; omega) (show 1 + 1 ≤ 4 by omega) (show (0 + 8) + 8 ≤ 88 by omega) dX6_init_15 (fun q2072 H heq2072 hzq2072 hoq2072 hatq2072 => ?_)
  have hgeq2072 : _ ≤ q2072 := Nat.le_trans hB.2.2.1 (Nat.le_of_eq heq2072.symm)
  have hbq2072 : B0 ≤ q2072 := Nat.le_trans hb0 hgeq2072
  have hfq2072 : (κ q2072).1 = 0 := hT.fresh hgeq2072
  have hB := hB.nwm heq2072 hzq2072 hoq2072 hatq2072 hb0
  have hB : Bx B0 D _ [(w, .inr (6, [.int 0, .int 0, .int 0, .null, .ref q2071, .null, .null, .null])), (q2071, .inl (cs 2, 8, .inl (fun _ => 0))), (q2072, .inl (cs 0, 8, .inl (fun _ => 0)))] [q2072, w, q2071] _ _ := hB
  refine b_putF (D := D) (ci := 6) (v := .ref q2072) (ty := .array .int) (C := RX6) (T := TX6) (N := 8) hx hb hts iX6_init_6 tyX6 tyX6_ok nmX6 hown hN hB 0 rfl rfl 5 (by decide) (hts _ mX6_init_7) (fun _ h9 => h9) rfl hin rfl (by decide +kernel) rfl rfl (Nat.le_of_ble_eq_true rfl) (.inr ⟨rfl, List.mem_of_getElem? (i := 1) rfl⟩) dX6_init_17 (fun H locs hB => ?_)
  have hB : Bx B0 D _ [(w, .inr (6, [.int 0, .int 0, .int 0, .null, .ref q2071, .ref q2072, .null, .null])), (q2071, .inl (cs 2, 8, .inl (fun _ => 0))), (q2072, .inl (cs 0, 8, .inl (fun _ => 0)))] [q2072, w, q2071] _ _ := hB
  refine lv_aload_n hx hb dX6_init_20 rfl (lv_at hl 0 rfl) ?_
  refine lv_bipush (v := 8) hx hb dX6_init_21 (by decide) ?_
  refine nw_a (atype := .int) (ty := .int) (N' := 8) (a0 := (8, .inl (fun _ => 0))) 0 hN rfl hx hb (hts _ mX6_init_6) rfl (fun _ => rfl) (nI_pos (n := 8) (by omega)) (nI_clamp (n := 8) (by omega)) (show 8 * _ ≤ _ by simp only [componentBytes]; omega) (show 2 + 1 ≤ 4 by omega) (show ((0 + 8) + 8) + 8 ≤ 88 by omega) dX6_init_23 (fun q2073 H heq2073 hzq2073 hoq2073 hatq2073 => ?_)
  have hgeq2073 : _ ≤ q2073 := Nat.le_trans hB.2.2.1 (Nat.le_of_eq heq2073.symm)
  have hbq2073 : B0 ≤ q2073 := Nat.le_trans hb0 hgeq2073
  have hfq2073 : (κ q2073).1 = 0 := hT.fresh hgeq2073
  have hB := hB.nwm heq2073 hzq2073 hoq2073 hatq2073 hb0
  have hB : Bx B0 D _ [(w, .inr (6, [.int 0, .int 0, .int 0, .null, .ref q2071, .ref q2072, .null, .null])), (q2071, .inl (cs 2, 8, .inl (fun _ => 0))), (q2072, .inl (cs 0, 8, .inl (fun _ => 0))), (q2073, .inl (cs 0, 8, .inl (fun _ => 0)))] [q2073, q2072, w, q2071] _ _ := hB
  refine b_putF (D := D) (ci := 6) (v := .ref q2073) (ty := .array .int) (C := RX6) (T := TX6) (N := 8) hx hb hts iX6_init_6 tyX6 tyX6_ok nmX6 hown hN hB 0 rfl rfl 6 (by decide) (hts _ mX6_init_8) (fun _ h9 => h9) rfl hin rfl (by decide +kernel) rfl rfl (Nat.le_of_ble_eq_true rfl) (.inr ⟨rfl, List.mem_of_getElem? (i := 2) rfl⟩) dX6_init_25 (fun H locs hB => ?_)
  have hB : Bx B0 D _ [(w, .inr (6, [.int 0, .int 0, .int 0, .null, .ref q2071, .ref q2072, .ref q2073, .null])), (q2071, .inl (cs 2, 8, .inl (fun _ => 0))), (q2072, .inl (cs 0, 8, .inl (fun _ => 0))), (q2073, .inl (cs 0, 8, .inl (fun _ => 0)))] [q2073, q2072, w, q2071] _ _ := hB
  refine lv_aload_n hx hb dX6_init_28 rfl (lv_at hl 0 rfl) ?_
  refine lv_bipush (v := 64) hx hb dX6_init_29 (by decide) ?_
  refine nw_a (atype := .int) (ty := .int) (N' := 64) (a0 := (64, .inl (fun _ => 0))) 0 hN rfl hx hb (hts _ mX6_init_6) rfl (fun _ => rfl) (nI_pos (n := 64) (by omega)) (nI_clamp (n := 64) (by omega)) (show 64 * _ ≤ _ by simp only [componentBytes]; omega) (show 3 + 1 ≤ 4 by omega) (show (((0 + 8) + 8) + 8) + 64 ≤ 88 by omega) dX6_init_31 (fun q2074 H heq2074 hzq2074 hoq2074 hatq2074 => ?_)
  have hgeq2074 : _ ≤ q2074 := Nat.le_trans hB.2.2.1 (Nat.le_of_eq heq2074.symm)
  have hbq2074 : B0 ≤ q2074 := Nat.le_trans hb0 hgeq2074
  have hfq2074 : (κ q2074).1 = 0 := hT.fresh hgeq2074
  have hB := hB.nwm heq2074 hzq2074 hoq2074 hatq2074 hb0
  have hB : Bx B0 D _ [(w, .inr (6, [.int 0, .int 0, .int 0, .null, .ref q2071, .ref q2072, .ref q2073, .null])), (q2071, .inl (cs 2, 8, .inl (fun _ => 0))), (q2072, .inl (cs 0, 8, .inl (fun _ => 0))), (q2073, .inl (cs 0, 8, .inl (fun _ => 0))), (q2074, .inl (cs 0, 64, .inl (fun _ => 0)))] [q2074, q2073, q2072, w, q2071] _ _ := hB
  refine b_putF (D := D) (ci := 6) (v := .ref q2074) (ty := .array .int) (C := RX6) (T := TX6) (N := 8) hx hb hts iX6_init_6 tyX6 tyX6_ok nmX6 hown hN hB 0 rfl rfl 7 (by decide) (hts _ mX6_init_9) (fun _ h9 => h9) rfl hin rfl (by decide +kernel) rfl rfl (Nat.le_of_ble_eq_true rfl) (.inr ⟨rfl, List.mem_of_getElem? (i := 3) rfl⟩) dX6_init_33 (fun H locs hB => ?_)
  have hB : Bx B0 D _ [(w, .inr (6, [.int 0, .int 0, .int 0, .null, .ref q2071, .ref q2072, .ref q2073, .ref q2074])), (q2071, .inl (cs 2, 8, .inl (fun _ => 0))), (q2072, .inl (cs 0, 8, .inl (fun _ => 0))), (q2073, .inl (cs 0, 8, .inl (fun _ => 0))), (q2074, .inl (cs 0, 64, .inl (fun _ => 0)))] [q2074, q2073, q2072, w, q2071] _ _ := hB
  refine lv_aload_n hx hb dX6_init_36 rfl (lv_at hl 0 rfl) ?_
  refine lv_iload_n hx hb dX6_init_37 rfl (lv_at hl 1 rfl) ?_
  refine b_putF (D := D) (ci := 6) (v := .int (nI n)) (ty := .int) (C := RX6) (T := TX6) (N := 8) hx hb hts iX6_init_6 tyX6 tyX6_ok nmX6 hown hN hB 0 rfl rfl 0 (by decide) (hts _ mX6_init_10) (fun _ h9 => h9) rfl hin rfl (by decide +kernel) rfl rfl (Nat.le_of_ble_eq_true rfl) (.inr ⟨rfl, List.mem_of_getElem? (i := 3) rfl⟩) dX6_init_38 (fun H locs hB => ?_)
  have hB : Bx B0 D _ [(w, .inr (6, [.int (nI n), .int 0, .int 0, .null, .ref q2071, .ref q2072, .ref q2073, .ref q2074])), (q2071, .inl (cs 2, 8, .inl (fun _ => 0))), (q2072, .inl (cs 0, 8, .inl (fun _ => 0))), (q2073, .inl (cs 0, 8, .inl (fun _ => 0))), (q2074, .inl (cs 0, 64, .inl (fun _ => 0)))] [q2074, q2073, q2072, w, q2071] _ _ := hB
  obtain ⟨κ2075, hκ2075⟩ : ∃ κ9 : KM, κ9 = (ku (ku (ku (ku (ku κ w (7, 11, 0, 0)) q2071 (18, 11, 0, 0)) q2072 (19, 11, 0, 0)) q2073 (19, 11, 0, 0)) q2074 (20, 11, 0, 0)) := ⟨_, rfl⟩
  have hx2075 : KX κ κ2075 := by rw [hκ2075]; exact (((((KX.ku hfw).tr (KX.ku (by rw [ku_n (fun e9 => absurd (hB.2.1.1 1 0 _ _ rfl rfl e9) (by decide))]; exact hfq2071))).tr (KX.ku (by rw [ku_n (fun e9 => absurd (hB.2.1.1 2 1 _ _ rfl rfl e9) (by decide)), ku_n (fun e9 => absurd (hB.2.1.1 2 0 _ _ rfl rfl e9) (by decide))]; exact hfq2072))).tr (KX.ku (by rw [ku_n (fun e9 => absurd (hB.2.1.1 3 2 _ _ rfl rfl e9) (by decide)), ku_n (fun e9 => absurd (hB.2.1.1 3 1 _ _ rfl rfl e9) (by decide)), ku_n (fun e9 => absurd (hB.2.1.1 3 0 _ _ rfl rfl e9) (by decide))]; exact hfq2073))).tr (KX.ku (by rw [ku_n (fun e9 => absurd (hB.2.1.1 4 3 _ _ rfl rfl e9) (by decide)), ku_n (fun e9 => absurd (hB.2.1.1 4 2 _ _ rfl rfl e9) (by decide)), ku_n (fun e9 => absurd (hB.2.1.1 4 1 _ _ rfl rfl e9) (by decide)), ku_n (fun e9 => absurd (hB.2.1.1 4 0 _ _ rfl rfl e9) (by decide))]; exact hfq2074)))
  have ew : κ2075 w = (7, 11, 0, 0) := by rw [hκ2075, ku_n (fun e9 => absurd (hB.2.1.1 0 4 _ _ rfl rfl e9) (by decide)), ku_n (fun e9 => absurd (hB.2.1.1 0 3 _ _ rfl rfl e9) (by decide)), ku_n (fun e9 => absurd (hB.2.1.1 0 2 _ _ rfl rfl e9) (by decide)), ku_n (fun e9 => absurd (hB.2.1.1 0 1 _ _ rfl rfl e9) (by decide)), ku_a]
  have hw : T2 κ2075 w 7 11 := ⟨by rw [ew], by rw [ew]⟩
  have eq2071 : κ2075 q2071 = (18, 11, 0, 0) := by rw [hκ2075, ku_n (fun e9 => absurd (hB.2.1.1 1 4 _ _ rfl rfl e9) (by decide)), ku_n (fun e9 => absurd (hB.2.1.1 1 3 _ _ rfl rfl e9) (by decide)), ku_n (fun e9 => absurd (hB.2.1.1 1 2 _ _ rfl rfl e9) (by decide)), ku_a]
  have hq2071 : T2 κ2075 q2071 18 11 := ⟨by rw [eq2071], by rw [eq2071]⟩
  have eq2072 : κ2075 q2072 = (19, 11, 0, 0) := by rw [hκ2075, ku_n (fun e9 => absurd (hB.2.1.1 2 4 _ _ rfl rfl e9) (by decide)), ku_n (fun e9 => absurd (hB.2.1.1 2 3 _ _ rfl rfl e9) (by decide)), ku_a]
  have hq2072 : T2 κ2075 q2072 19 11 := ⟨by rw [eq2072], by rw [eq2072]⟩
  have eq2073 : κ2075 q2073 = (19, 11, 0, 0) := by rw [hκ2075, ku_n (fun e9 => absurd (hB.2.1.1 3 4 _ _ rfl rfl e9) (by decide)), ku_a]
  have hq2073 : T2 κ2075 q2073 19 11 := ⟨by rw [eq2073], by rw [eq2073]⟩
  have eq2074 : κ2075 q2074 = (20, 11, 0, 0) := by rw [hκ2075, ku_a]
  have hq2074 : T2 κ2075 q2074 20 11 := ⟨by rw [eq2074], by rw [eq2074]⟩
  have hx9 := hx2075
  have hT : WT B0 D cs T κ2075 _ := hT.closeN hB hx2075 (fun a9 h9 => by rw [hκ2075, ku_n (fun e9 => h9 (by rw [e9]; exact List.mem_of_getElem? (i := 0) rfl)), ku_n (fun e9 => h9 (by rw [e9]; exact List.mem_of_getElem? (i := 1) rfl)), ku_n (fun e9 => h9 (by rw [e9]; exact List.mem_of_getElem? (i := 2) rfl)), ku_n (fun e9 => h9 (by rw [e9]; exact List.mem_of_getElem? (i := 4) rfl)), ku_n (fun e9 => h9 (by rw [e9]; exact List.mem_of_getElem? (i := 3) rfl))]) ⟨⟨4, _, rfl, ok_20 hq2074.1 ⟨_, rfl, (fun _ _ => ⟨0, Nat.zero_le _, rfl⟩)⟩⟩, ⟨⟨3, _, rfl, ok_19 hq2073.1 ⟨_, rfl⟩⟩, ⟨⟨2, _, rfl, ok_19 hq2072.1 ⟨_, rfl⟩⟩, ⟨⟨0, _, rfl, ok_7 hw.1 ⟨_, _, _, _, _, _, _, _, rfl, (by omega), (Or.inl rfl), (Or.inl (by rw [ew]; decide)), ⟨hq2071.1, by rw [ew]; exact hq2071.2⟩, ⟨hq2072.1, by rw [ew]; exact hq2072.2⟩, ⟨hq2073.1, by rw [ew]; exact hq2073.2⟩, ⟨hq2074.1, by rw [ew]; exact hq2074.2⟩⟩⟩, ⟨⟨1, _, rfl, ok_18 hq2071.1 ⟨_, rfl, (fun _ _ => Or.inl rfl)⟩⟩, trivial⟩⟩⟩⟩⟩
  have hF : Fr B0 [] κ H0 _ := hF.closeN hB (fa_c (fun h9 => absurd hfq2074 h9) (fa_c (fun h9 => absurd hfq2073 h9) (fa_c (fun h9 => absurd hfq2072 h9) (fa_c (fun h9 => absurd hfw h9) (fa_c (fun h9 => absurd hfq2071 h9) fa_n)))))
  have hL : OkL B0 _ := hB.2.2.2.2.2
  have hKF : KF κ κ2075 := hx2075.f
  have hKX : KX κ κ2075 := hx2075
  have hP : va_P D vwCl [(w, .inr (6, [.int (nI n), .int 0, .int 0, .null, .ref q2071, .ref q2072, .ref q2073, .ref q2074])), (q2071, .inl (cs 2, 8, .inl (fun _ => 0))), (q2072, .inl (cs 0, 8, .inl (fun _ => 0))), (q2073, .inl (cs 0, 8, .inl (fun _ => 0))), (q2074, .inl (cs 0, 64, .inl (fun _ => 0)))] _ := hB.1
  exact en_v hx hb hr hlocks hL (show 4 ≤ 4 by omega) (show ((((0 + 8) + 8) + 8) + 64) ≤ 88 by omega) dX6_init_41 (⟨_, hKX, hT, hF, hw, ew⟩)
theorem mX5_readStatement_7 : (.fieldLink RX5 124 "OneBeat$Reader" "start" "I" : Cond) ∈ wsX5_readStatement := List.mem_of_getElem? (i := 7) (by decide +kernel)
theorem iX5_readStatement_5 : ∀ w ∈ wsX50, w ∈ wsX5_readStatement := fun w h => List.mem_of_mem_drop (List.mem_of_mem_take ((show wsX50 = (wsX5_readStatement.drop 183).take 14 by decide +kernel) ▸ h))
theorem mX5_readStatement_1 : (.fieldLink RX5 65 "OneBeat$Reader" "setup" "LOneBeat$Setup;" : Cond) ∈ wsX5_readStatement := List.mem_of_getElem? (i := 1) (by decide +kernel)
theorem iX5_readStatement_6 : ∀ w ∈ wsX60, w ∈ wsX5_readStatement := fun w h => List.mem_of_mem_drop (List.mem_of_mem_take ((show wsX60 = (wsX5_readStatement.drop 197).take 8 by decide +kernel) ▸ h))
theorem iX5_readStatement_0 : ∀ w ∈ wsX00, w ∈ wsX5_readStatement := fun w h => List.mem_of_mem_drop (List.mem_of_mem_take ((show wsX00 = (wsX5_readStatement.drop 205).take 2 by decide +kernel) ▸ h))
theorem mX5_readStatement_2 : (.classLink RX5 119 RX0 : Cond) ∈ wsX5_readStatement := List.mem_of_getElem? (i := 2) (by decide +kernel)
theorem mX5_readStatement_3 : (.instantiable RX0 2 : Cond) ∈ wsX5_readStatement := List.mem_of_getElem? (i := 3) (by decide +kernel)
theorem mX5_readStatement_4 : (.initialized RX0 : Cond) ∈ wsX5_readStatement := List.mem_of_getElem? (i := 4) (by decide +kernel)
theorem dfl0 : ∀ j, j < 2 → defaultValue (tyX0 j) = vp_V [.null, .null] j := by decide +kernel
theorem mX5_readStatement_5 : (.fieldLink RX5 15 "OneBeat$Reader" "codes" "[I" : Cond) ∈ wsX5_readStatement := List.mem_of_getElem? (i := 5) (by decide +kernel)
theorem mX5_readStatement_6 : (.fieldLink RX5 38 "OneBeat$Reader" "codeCount" "I" : Cond) ∈ wsX5_readStatement := List.mem_of_getElem? (i := 6) (by decide +kernel)
theorem mX5_readStatement_157 : (.instanceMethod yX0_init : Cond) ∈ wsX5_readStatement := List.mem_of_getElem? (i := 157) (by decide +kernel)
theorem mX5_readStatement_156 : (.methodLink RX5 121 yX0_init : Cond) ∈ wsX5_readStatement := List.mem_of_getElem? (i := 156) (by decide +kernel)
theorem hdX0_init_o : yX0_init.cls ≠ "java/lang/invoke/MethodHandle" ∧ yX0_init.cls ≠ "java/lang/invoke/VarHandle" ∧ (parseMethodDescriptor yX0_init.desc).map (fun d => d.parameters.length) = some 2 := by decide +kernel
theorem hdX5_readPatience_v : yX5_readPatience.cls = RX5 ∧ yX5_readPatience.cls ≠ "java/lang/invoke/MethodHandle" ∧ yX5_readPatience.cls ≠ "java/lang/invoke/VarHandle" ∧ (parseMethodDescriptor yX5_readPatience.desc).map (fun d => d.parameters.length) = some 0 := by decide +kernel
theorem hdX5_readNeed_v : yX5_readNeed.cls = RX5 ∧ yX5_readNeed.cls ≠ "java/lang/invoke/MethodHandle" ∧ yX5_readNeed.cls ≠ "java/lang/invoke/VarHandle" ∧ (parseMethodDescriptor yX5_readNeed.desc).map (fun d => d.parameters.length) = some 0 := by decide +kernel
theorem hdX5_readLink_v : yX5_readLink.cls = RX5 ∧ yX5_readLink.cls ≠ "java/lang/invoke/MethodHandle" ∧ yX5_readLink.cls ≠ "java/lang/invoke/VarHandle" ∧ (parseMethodDescriptor yX5_readLink.desc).map (fun d => d.parameters.length) = some 0 := by decide +kernel
theorem hdX5_readClock_v : yX5_readClock.cls = RX5 ∧ yX5_readClock.cls ≠ "java/lang/invoke/MethodHandle" ∧ yX5_readClock.cls ≠ "java/lang/invoke/VarHandle" ∧ (parseMethodDescriptor yX5_readClock.desc).map (fun d => d.parameters.length) = some 0 := by decide +kernel
set_option maxHeartbeats 4000000 in
set_option maxRecDepth 100000 in
theorem c_X5_readStatement {l : Launch} {D : va_G} {cs : Nat → ClassId} {B0 T : Nat} {κ : KM} {H0 : Heap} (hT : WT B0 D cs T κ H0) {w : Nat} (hw : T2 κ w 6 10) (hs0 : ¬ (κ w).2.2.2 = 0) (hsu : T2 κ (κ w).2.2.2 7 11) : KC l yX5_readStatement wsX5_readStatement 21 467 3 618 D cs B0 H0 [.ref w] (Qi (fun r H => ∃ κ1, (∀ a, (κ a).1 ≠ 0 → a ≠ (κ w).2.2.2 → κ1 a = κ a) ∧ WT B0 D cs T κ1 H ∧ Fr B0 [10, 11] κ H0 H ∧ T2 κ1 (κ w).2.2.2 7 11 ∧ (((κ1 (κ w).2.2.2).2.2.1 = (κ (κ w).2.2.2).2.2.1 ∧ Gr H0 H 0 0) ∨ ((κ (κ w).2.2.2).2.2.1 ≠ 1 ∧ (κ1 (κ w).2.2.2).2.2.1 = 1 ∧ Gr H0 H 3 618)) ∧ (r = 0 ∨ r = 1))) := by
  refine KC.of cX5_readStatement 1 (some .boolean) (by decide) rfl (Nat.le_of_ble_eq_true rfl) ?_
  intro p e s m below meth c ls hx hb hr hml hown hts hlocks hin hN hE hH0 hl
  have hown : s.vm.findClass RX5 = some m.cls := hown
  have hl : lv_has ls 1 [(0, .ref w)] := hl
  have hL : OkL B0 [] := OkL.nil
  have hF : Fr B0 [10, 11] κ H0 H0 := Fr.rf
  refine lv_aload_n hx hb dX5_readStatement_0 rfl (lv_at hl 0 rfl) ?_
  refine va_ldcS hx hb hown (hN.s 2 rfl) dX5_readStatement_1 ?_
  refine cv_i (As := [.ref (cs 102)]) (rest := []) (b := w) ⟨hx, hb, hml, hown, hts⟩ (c_X5_isWord hT (w := w) hw (i := 2) (by decide)) (cwV 1 hts gX5_readStatement_X5_isWord rfl rfl rfl hdX5_isWord_v ⟨Nat.le_of_ble_eq_true rfl, Nat.le_of_ble_eq_true rfl⟩) hN hE hL (rcv6 hN hT hw.1) rfl rfl hl.1 (Nat.le_of_ble_eq_true rfl) dX5_readStatement_3 (Nat.zero_le _) (Nat.zero_le _) (fun r2076 H1 locs hL hqr2076 => ?_)
  obtain ⟨h9, hqr2076⟩ := hqr2076; replace h9 := h9.symm; subst h9
  rcases hqr2076 with rfl | rfl
  · refine lv_if_eq (tgt := 14) hx hb dX5_readStatement_6 (by decide) (fun _ => ?_) (fun c9 => absurd (by decide) c9)
    refine lv_aload_n hx hb dX5_readStatement_14 rfl (lv_at hl 0 rfl) ?_
    refine va_ldcS hx hb hown (hN.s 3 rfl) dX5_readStatement_15 ?_
    refine cv_i (As := [.ref (cs 103)]) (rest := []) (b := w) ⟨hx, hb, hml, hown, hts⟩ (c_X5_isWord hT (w := w) hw (i := 3) (by decide)) (cwV 1 hts gX5_readStatement_X5_isWord rfl rfl rfl hdX5_isWord_v ⟨Nat.le_of_ble_eq_true rfl, Nat.le_of_ble_eq_true rfl⟩) hN hE hL (rcv6 hN hT hw.1) rfl rfl hl.1 (Nat.le_of_ble_eq_true rfl) dX5_readStatement_17 (Nat.zero_le _) (Nat.zero_le _) (fun r2077 H1 locs hL hqr2077 => ?_)
    obtain ⟨h9, hqr2077⟩ := hqr2077; replace h9 := h9.symm; subst h9
    rcases hqr2077 with rfl | rfl
    · refine lv_if_eq (tgt := 28) hx hb dX5_readStatement_20 (by decide) (fun _ => ?_) (fun c9 => absurd (by decide) c9)
      refine lv_aload_n hx hb dX5_readStatement_28 rfl (lv_at hl 0 rfl) ?_
      refine va_ldcS hx hb hown (hN.s 4 rfl) dX5_readStatement_29 ?_
      refine cv_i (As := [.ref (cs 104)]) (rest := []) (b := w) ⟨hx, hb, hml, hown, hts⟩ (c_X5_isWord hT (w := w) hw (i := 4) (by decide)) (cwV 1 hts gX5_readStatement_X5_isWord rfl rfl rfl hdX5_isWord_v ⟨Nat.le_of_ble_eq_true rfl, Nat.le_of_ble_eq_true rfl⟩) hN hE hL (rcv6 hN hT hw.1) rfl rfl hl.1 (Nat.le_of_ble_eq_true rfl) dX5_readStatement_31 (Nat.zero_le _) (Nat.zero_le _) (fun r2078 H1 locs hL hqr2078 => ?_)
      obtain ⟨h9, hqr2078⟩ := hqr2078; replace h9 := h9.symm; subst h9
      rcases hqr2078 with rfl | rfl
      · refine lv_if_eq (tgt := 52) hx hb dX5_readStatement_34 (by decide) (fun _ => ?_) (fun c9 => absurd (by decide) c9)
        refine lv_aload_n hx hb dX5_readStatement_52 rfl (lv_at hl 0 rfl) ?_
        refine va_ldcS hx hb hown (hN.s 5 rfl) dX5_readStatement_53 ?_
        refine cv_i (As := [.ref (cs 105)]) (rest := []) (b := w) ⟨hx, hb, hml, hown, hts⟩ (c_X5_isWord hT (w := w) hw (i := 5) (by decide)) (cwV 1 hts gX5_readStatement_X5_isWord rfl rfl rfl hdX5_isWord_v ⟨Nat.le_of_ble_eq_true rfl, Nat.le_of_ble_eq_true rfl⟩) hN hE hL (rcv6 hN hT hw.1) rfl rfl hl.1 (Nat.le_of_ble_eq_true rfl) dX5_readStatement_55 (Nat.zero_le _) (Nat.zero_le _) (fun r2079 H1 locs hL hqr2079 => ?_)
        obtain ⟨h9, hqr2079⟩ := hqr2079; replace h9 := h9.symm; subst h9
        rcases hqr2079 with rfl | rfl
        · refine lv_if_eq (tgt := 76) hx hb dX5_readStatement_58 (by decide) (fun _ => ?_) (fun c9 => absurd (by decide) c9)
          refine lv_aload_n hx hb dX5_readStatement_76 rfl (lv_at hl 0 rfl) ?_
          refine va_ldcS hx hb hown (hN.s 6 rfl) dX5_readStatement_77 ?_
          refine cv_i (As := [.ref (cs 106)]) (rest := []) (b := w) ⟨hx, hb, hml, hown, hts⟩ (c_X5_isWord hT (w := w) hw (i := 6) (by decide)) (cwV 1 hts gX5_readStatement_X5_isWord rfl rfl rfl hdX5_isWord_v ⟨Nat.le_of_ble_eq_true rfl, Nat.le_of_ble_eq_true rfl⟩) hN hE hL (rcv6 hN hT hw.1) rfl rfl hl.1 (Nat.le_of_ble_eq_true rfl) dX5_readStatement_79 (Nat.zero_le _) (Nat.zero_le _) (fun r2080 H1 locs hL hqr2080 => ?_)
          obtain ⟨h9, hqr2080⟩ := hqr2080; replace h9 := h9.symm; subst h9
          rcases hqr2080 with rfl | rfl
          · refine lv_if_eq (tgt := 133) hx hb dX5_readStatement_82 (by decide) (fun _ => ?_) (fun c9 => absurd (by decide) c9)
            refine lv_aload_n hx hb dX5_readStatement_133 rfl (lv_at hl 0 rfl) ?_
            refine lv_bipush (v := (-2)) hx hb dX5_readStatement_134 (by decide) ?_
            refine lv_aload_n hx hb dX5_readStatement_136 rfl (lv_at hl 0 rfl) ?_
            obtain ⟨hb2081, e2081, hat2081, hk2081⟩ := hT.o6 hw.1
            obtain ⟨f2081_0, f2081_2, f2081_3, f2081_4, f2081_5, f2081_6, f2081_7, f2081_8, f2081_9, f2081_10, f2081_11, f2081_12, f2081_13, rfl, c2081_1, c2081_2, c2081_3, c2081_5, c2081_10, t2081_0, t2081_9, c2081_11, c2081_p2⟩ := hk2081
            obtain rfl : f2081_11 = .ref (κ w).2.2.2 := c2081_p2.resolve_left hs0
            have hP : va_P D vwCl [(w, .inr (5, [.ref f2081_0, .int (nI ((κ w).2.2.1)), .int (nI f2081_2), .int (nI f2081_3), .int f2081_4, .int (nI f2081_5), .int f2081_6, .int f2081_7, .int f2081_8, .ref f2081_9, .int (nI f2081_10), .ref (κ w).2.2.2, .int f2081_12, .int f2081_13]))] _ := va_P.cons hat2081 va_P.nil
            refine va_get (D := D) (ci := 5) (v := .int (nI f2081_5)) (C := RX5) (T := TX5) (N := 14) hx hb hts iX5_readStatement_5 hown hN.1 hP 0 rfl rfl 5 (by decide) (hts _ mX5_readStatement_7) (fun _ h9 => h9) rfl dX5_readStatement_137 ?_
            refine cv_i (As := [.int (-2), .int (nI f2081_5)]) (rest := []) (b := w) ⟨hx, hb, hml, hown, hts⟩ (c_X5_fail hT (w := w) hw (x := (-2)) (y := (nI f2081_5))) (cwV 2 hts gX5_readStatement_X5_fail rfl rfl rfl hdX5_fail_v ⟨Nat.le_of_ble_eq_true rfl, Nat.le_of_ble_eq_true rfl⟩) hN hE hL (rcv6 hN hT hw.1) rfl rfl hl.1 (Nat.le_of_ble_eq_true rfl) dX5_readStatement_140 (Nat.zero_le _) (Nat.zero_le _) (fun r2082 H1 locs hL hqr2082 => ?_)
            obtain ⟨hT1, hF1, hqr2082⟩ := hqr2082
            have hF := hF.tr (hF1.mono (by simp))
            have hT := hT1
            obtain rfl := hqr2082
            refine W.know (fun hg => ?_)
            rw [hH0] at hg
            exact en_i hx hb hr hlocks hL rfl (Nat.zero_le _) (Nat.zero_le _) dX5_readStatement_143 (⟨_, (fun _ _ _ => rfl), hT, hF, hsu, Or.inl ⟨rfl, hg⟩, Or.inl rfl⟩)
          · refine lv_if_eq (tgt := 133) hx hb dX5_readStatement_82 (by decide) (fun c9 => absurd c9 (by decide)) (fun _ => ?_)
            refine lv_aload_n hx hb dX5_readStatement_85 rfl (lv_at hl 0 rfl) ?_
            obtain ⟨hb2083, e2083, hat2083, hk2083⟩ := hT.o6 hw.1
            obtain ⟨f2083_0, f2083_2, f2083_3, f2083_4, f2083_5, f2083_6, f2083_7, f2083_8, f2083_9, f2083_10, f2083_11, f2083_12, f2083_13, rfl, c2083_1, c2083_2, c2083_3, c2083_5, c2083_10, t2083_0, t2083_9, c2083_11, c2083_p2⟩ := hk2083
            obtain rfl : f2083_11 = .ref (κ w).2.2.2 := c2083_p2.resolve_left hs0
            have hP : va_P D vwCl [(w, .inr (5, [.ref f2083_0, .int (nI ((κ w).2.2.1)), .int (nI f2083_2), .int (nI f2083_3), .int f2083_4, .int (nI f2083_5), .int f2083_6, .int f2083_7, .int f2083_8, .ref f2083_9, .int (nI f2083_10), .ref (κ w).2.2.2, .int f2083_12, .int f2083_13]))] _ := va_P.cons hat2083 va_P.nil
            refine va_get (D := D) (ci := 5) (v := .ref (κ w).2.2.2) (C := RX5) (T := TX5) (N := 14) hx hb hts iX5_readStatement_5 hown hN.1 hP 0 rfl rfl 11 (by decide) (hts _ mX5_readStatement_1) (fun _ h9 => h9) rfl dX5_readStatement_86 ?_
            obtain ⟨hb2084, e2084, hat2084, hk2084⟩ := hT.o7 hsu.1
            obtain ⟨f2084_0, f2084_1, f2084_2, f2084_3, f2084_4, f2084_5, f2084_6, f2084_7, rfl, c2084_0, c2084_3, c2084_mg, t2084_4, t2084_5, t2084_6, t2084_7⟩ := hk2084
            rw [hsu.2] at t2084_4
            rw [hsu.2] at t2084_5
            rw [hsu.2] at t2084_6
            rw [hsu.2] at t2084_7
            have hP : va_P D vwCl [((κ w).2.2.2, .inr (6, [.int (nI f2084_0), .int f2084_1, .int f2084_2, f2084_3, .ref f2084_4, .ref f2084_5, .ref f2084_6, .ref f2084_7])), (w, .inr (5, [.ref f2083_0, .int (nI ((κ w).2.2.1)), .int (nI f2083_2), .int (nI f2083_3), .int f2083_4, .int (nI f2083_5), .int f2083_6, .int f2083_7, .int f2083_8, .ref f2083_9, .int (nI f2083_10), .ref (κ w).2.2.2, .int f2083_12, .int f2083_13]))] _ := va_P.cons hat2084 hP
            rcases c2084_3 with rfl | ⟨a2085, rfl, ta2085⟩
            · refine va_getN (D := D) (ci := 6) (v := .null) (C := RX6) (T := TX6) (N := 8) hx hb hts iX5_readStatement_6 hown hN.1 hP 0 rfl rfl 3 (by decide) (hN.f 44 rfl) (fun _ h9 => h9) rfl dX5_readStatement_89 ?_
              refine lv_ifnonnullN hx hb dX5_readStatement_92 ?_
              have hmg1 : (κ (κ w).2.2.2).2.2.1 ≠ 1 := (c2084_mg).resolve_right (by rintro ⟨_, h9⟩; cases h9)
              refine lv_aload_n hx hb dX5_readStatement_95 rfl (lv_at hl 0 rfl) ?_
              refine cv_v (As := []) (rest := []) (b := w) ⟨hx, hb, hml, hown, hts⟩ (c_X5_step hT (w := w) hw) (cwV 0 hts gX5_readStatement_X5_step rfl rfl rfl hdX5_step_v ⟨Nat.le_of_ble_eq_true rfl, Nat.le_of_ble_eq_true rfl⟩) hN hE hL (rcv6 hN hT hw.1) rfl rfl hl.1 (Nat.le_of_ble_eq_true rfl) dX5_readStatement_96 (Nat.zero_le _) (Nat.zero_le _) (fun H1 locs hL hqr2086 => ?_)
              obtain ⟨hT1, hF1, hqr2086⟩ := hqr2086
              have hP : va_P D vwCl [((κ w).2.2.2, .inr (6, [.int (nI f2084_0), .int f2084_1, .int f2084_2, .null, .ref f2084_4, .ref f2084_5, .ref f2084_6, .ref f2084_7]))] _ := hF1.hP (hP.sub [0] rfl) (fa_c ⟨by rw [hsu.1]; decide, by rw [hsu.2]; first | decide | (simp; done) | (simp; omega)⟩ fa_n)
              have hF := hF.tr (hF1.mono (by simp))
              have hT := hT1
              have f2087 := hqr2086
              refine lv_aload_n hx hb dX5_readStatement_99 rfl (lv_at hl 0 rfl) ?_
              refine lv_iconst (v := 0) hx hb dX5_readStatement_100 (by decide) ?_
              refine cv_i (As := [.int 0]) (rest := []) (b := w) ⟨hx, hb, hml, hown, hts⟩ (c_X5_readSum_d0 hT (w := w) hw) (cwV 1 hts gX5_readStatement_X5_readSum rfl rfl rfl hdX5_readSum_v ⟨Nat.le_of_ble_eq_true rfl, Nat.le_of_ble_eq_true rfl⟩) hN hE hL (rcv6 hN hT hw.1) rfl rfl hl.1 (Nat.le_of_ble_eq_true rfl) dX5_readStatement_101 (Nat.zero_le _) (Nat.zero_le _) (fun r2088 H1 locs hL hqr2088 => ?_)
              obtain ⟨hT1, hF1, hqr2088⟩ := hqr2088
              have hP : va_P D vwCl [((κ w).2.2.2, .inr (6, [.int (nI f2084_0), .int f2084_1, .int f2084_2, .null, .ref f2084_4, .ref f2084_5, .ref f2084_6, .ref f2084_7]))] _ := hF1.hP (hP.sub [0] rfl) (fa_c ⟨by rw [hsu.1]; decide, by rw [hsu.2]; first | decide | (simp; done) | (simp; omega)⟩ fa_n)
              have hF := hF.tr (hF1.mono (by simp))
              have hT := hT1
              rcases hqr2088 with rfl | rfl
              · refine lv_if_ne (tgt := 109) hx hb dX5_readStatement_104 (by decide) (fun c9 => absurd (by decide) c9) (fun _ => ?_)
                refine lv_iconst (v := 0) hx hb dX5_readStatement_107 (by decide) ?_
                refine W.know (fun hg => ?_)
                rw [hH0] at hg
                exact en_i hx hb hr hlocks hL rfl (Nat.zero_le _) (Nat.zero_le _) dX5_readStatement_108 (⟨_, (fun _ _ _ => rfl), hT, hF, hsu, Or.inl ⟨rfl, hg⟩, Or.inl rfl⟩)
              · refine lv_if_ne (tgt := 109) hx hb dX5_readStatement_104 (by decide) (fun _ => ?_) (fun c9 => absurd c9 (by decide))
                refine lv_aload_n hx hb dX5_readStatement_109 rfl (lv_at hl 0 rfl) ?_
                obtain ⟨hb2089, e2089, hat2089, hk2089⟩ := hT.o6 hw.1
                obtain ⟨f2089_0, f2089_2, f2089_3, f2089_4, f2089_5, f2089_6, f2089_7, f2089_8, f2089_9, f2089_10, f2089_11, f2089_12, f2089_13, rfl, c2089_1, c2089_2, c2089_3, c2089_5, c2089_10, t2089_0, t2089_9, c2089_11, c2089_p2⟩ := hk2089
                obtain rfl : f2089_11 = .ref (κ w).2.2.2 := c2089_p2.resolve_left hs0
                have hP : va_P D vwCl [(w, .inr (5, [.ref f2089_0, .int (nI ((κ w).2.2.1)), .int (nI f2089_2), .int (nI f2089_3), .int f2089_4, .int (nI f2089_5), .int f2089_6, .int f2089_7, .int f2089_8, .ref f2089_9, .int (nI f2089_10), .ref (κ w).2.2.2, .int f2089_12, .int f2089_13])), ((κ w).2.2.2, .inr (6, [.int (nI f2084_0), .int f2084_1, .int f2084_2, .null, .ref f2084_4, .ref f2084_5, .ref f2084_6, .ref f2084_7]))] _ := va_P.cons hat2089 hP
                refine va_get (D := D) (ci := 5) (v := .ref (κ w).2.2.2) (C := RX5) (T := TX5) (N := 14) hx hb hts iX5_readStatement_5 hown hN.1 hP 0 rfl rfl 11 (by decide) (hts _ mX5_readStatement_1) (fun _ h9 => h9) rfl dX5_readStatement_110 ?_
                have hb0 : B0 ≤ _ := hT.b0 hw (by decide)
                have hB : Bx B0 D _ [(w, .inr (5, [.ref f2089_0, .int (nI ((κ w).2.2.1)), .int (nI f2089_2), .int (nI f2089_3), .int f2089_4, .int (nI f2089_5), .int f2089_6, .int f2089_7, .int f2089_8, .ref f2089_9, .int (nI f2089_10), .ref (κ w).2.2.2, .int f2089_12, .int f2089_13])), ((κ w).2.2.2, .inr (6, [.int (nI f2084_0), .int f2084_1, .int f2084_2, .null, .ref f2084_4, .ref f2084_5, .ref f2084_6, .ref f2084_7]))] [] _ _ := Bx.of (fun a => (κ a).1) hL hP (fa_c hb2089 (fa_c hb2084 fa_n)) (by simp only [List.map_cons, List.map_nil, hw.1, hsu.1]; decide)
                refine nw_o (ci := 0) (fs := [.null, .null]) (C := RX0) (T := TX0) (N := 2) hx hb hts iX5_readStatement_0 tyX0 tyX0_ok hown (hts _ mX5_readStatement_2) (hts _ mX5_readStatement_3) (hts _ mX5_readStatement_4) hN rfl dfl0 (show 0 + 1 ≤ 3 by omega) (show 0 + 2 ≤ 618 by omega) dX5_readStatement_113 (fun q2090 H heq2090 hzq2090 hoq2090 hatq2090 => ?_)
                have hgeq2090 : _ ≤ q2090 := Nat.le_trans hB.2.2.1 (Nat.le_of_eq heq2090.symm)
                have hbq2090 : B0 ≤ q2090 := Nat.le_trans hb0 hgeq2090
                have hfq2090 : (κ q2090).1 = 0 := hT.fresh hgeq2090
                have hB := hB.nw heq2090 hzq2090 hoq2090 hatq2090 hb0
                have hB : Bx B0 D _ [(w, .inr (5, [.ref f2089_0, .int (nI ((κ w).2.2.1)), .int (nI f2089_2), .int (nI f2089_3), .int f2089_4, .int (nI f2089_5), .int f2089_6, .int f2089_7, .int f2089_8, .ref f2089_9, .int (nI f2089_10), .ref (κ w).2.2.2, .int f2089_12, .int f2089_13])), ((κ w).2.2.2, .inr (6, [.int (nI f2084_0), .int f2084_1, .int f2084_2, .null, .ref f2084_4, .ref f2084_5, .ref f2084_6, .ref f2084_7])), (q2090, .inr (0, [.null, .null]))] [] _ _ := hB
                refine lv_dup hx hb dX5_readStatement_116 rfl ?_
                refine lv_aload_n hx hb dX5_readStatement_117 rfl (lv_at hl 0 rfl) ?_
                refine va_get (D := D) (ci := 5) (v := .ref f2089_9) (C := RX5) (T := TX5) (N := 14) hx hb hts iX5_readStatement_5 hown hN.1 hB.1 0 rfl rfl 9 (by decide) (hts _ mX5_readStatement_5) (fun _ h9 => h9) rfl dX5_readStatement_118 ?_
                refine lv_aload_n hx hb dX5_readStatement_121 rfl (lv_at hl 0 rfl) ?_
                refine va_get (D := D) (ci := 5) (v := .int (nI f2089_10)) (C := RX5) (T := TX5) (N := 14) hx hb hts iX5_readStatement_5 hown hN.1 hB.1 0 rfl rfl 10 (by decide) (hts _ mX5_readStatement_6) (fun _ h9 => h9) rfl dX5_readStatement_122 ?_
                have hT : WT B0 D cs T κ _ := hT.close hB trivial
                have hF : Fr B0 [10, 11] κ H0 _ := hF.close hB fa_n
                have hL : OkL B0 _ := hB.2.2.2.2.2
                have hP : va_P D vwCl [(w, .inr (5, [.ref f2089_0, .int (nI ((κ w).2.2.1)), .int (nI f2089_2), .int (nI f2089_3), .int f2089_4, .int (nI f2089_5), .int f2089_6, .int f2089_7, .int f2089_8, .ref f2089_9, .int (nI f2089_10), .ref (κ w).2.2.2, .int f2089_12, .int f2089_13])), ((κ w).2.2.2, .inr (6, [.int (nI f2084_0), .int f2084_1, .int f2084_2, .null, .ref f2084_4, .ref f2084_5, .ref f2084_6, .ref f2084_7])), (q2090, .inr (0, [.null, .null]))] _ := hB.1
                refine ci_v (As := [.ref f2089_9, .int (nI f2089_10)]) (rest := [.ref q2090, .ref (κ w).2.2.2]) (b := q2090) ⟨hx, hb, hml, hown, hts⟩ (c_X0_init hT (w := q2090) hfq2090 hbq2090 (hP 2 _ rfl) (v := f2089_9) t2089_9 (n := f2089_10) (by first | omega | decide | assumption)) (cwI 2 hts gX5_readStatement_X0_init rfl rfl rfl (hts _ mX5_readStatement_4) (hts _ mX5_readStatement_156) (hts _ mX5_readStatement_157) rfl hdX0_init_o ⟨Nat.le_of_ble_eq_true rfl, Nat.le_of_ble_eq_true rfl⟩) hN hE hL rfl rfl hl.1 (Nat.le_of_ble_eq_true rfl) dX5_readStatement_125 (show 1 + 2 ≤ 3 by omega) (show (0 + 2) + 616 ≤ 618 by omega) (fun H1 locs hL hqr2091 => ?_)
                obtain ⟨κr2091, hxr2091, hT1, hF1, hqr2091⟩ := hqr2091
                have hF := hF.tr (hF1.mono (by simp))
                have hT := hT1
                have hKF : KF κ κr2091 := hxr2091.f
                have hKX : KX κ κr2091 := hxr2091
                have hw := (hxr2091.f.t2 hw (by decide))
                have hsu := (hxr2091.f.t2 hsu (by decide))
                have hq2090 := hqr2091
                obtain ⟨hb2092, e2092, hat2092, hk2092⟩ := hT.o7 hsu.1
                obtain ⟨f2092_0, f2092_1, f2092_2, f2092_3, f2092_4, f2092_5, f2092_6, f2092_7, rfl, c2092_0, c2092_3, c2092_mg, t2092_4, t2092_5, t2092_6, t2092_7⟩ := hk2092
                rw [hsu.2] at t2092_4
                rw [hsu.2] at t2092_5
                rw [hsu.2] at t2092_6
                rw [hsu.2] at t2092_7
                have hP : va_P D vwCl [((κ w).2.2.2, .inr (6, [.int (nI f2092_0), .int f2092_1, .int f2092_2, f2092_3, .ref f2092_4, .ref f2092_5, .ref f2092_6, .ref f2092_7]))] _ := va_P.cons hat2092 va_P.nil
                have hB : Bx B0 D _ [((κ w).2.2.2, .inr (6, [.int (nI f2092_0), .int f2092_1, .int f2092_2, f2092_3, .ref f2092_4, .ref f2092_5, .ref f2092_6, .ref f2092_7]))] [] _ _ := Bx.of (fun a => (κr2091 a).1) hL hP (fa_c hb2092 fa_n) (by simp only [List.map_cons, List.map_nil, hsu.1]; decide)
                refine b_putN (D := D) (ci := 6) (v := .ref q2090) (ty := .object "OneBeat$Formula") (C := RX6) (T := TX6) (N := 8) hx hb hts iX5_readStatement_6 tyX6 tyX6_ok nmX6 hown hN hB 0 rfl rfl 3 (by decide) (hN.f 44 rfl) (fun _ h9 => h9) rfl (by decide +kernel) rfl rfl (Nat.le_of_ble_eq_true rfl) (.inl rfl) dX5_readStatement_128 (fun H locs hB => ?_)
                have hB : Bx B0 D _ [((κ w).2.2.2, .inr (6, [.int (nI f2092_0), .int f2092_1, .int f2092_2, .ref q2090, .ref f2092_4, .ref f2092_5, .ref f2092_6, .ref f2092_7]))] [(κ w).2.2.2] _ _ := hB
                refine lv_iconst (v := 1) hx hb dX5_readStatement_131 (by decide) ?_
                have hF : Fr B0 [10, 11] κ H0 _ := hF.closeN hB (fa_c (fun h9 => by rw [← (hKF _ h9).2, hsu.2]; simp) fa_n)
                have hT : WT B0 D cs T (kp κr2091 (κ w).2.2.2 1 0) _ := hT.closeK (κ w).2.2.2 1 0 hB (by rw [hsu.1]; decide) (by rw [hsu.1]; decide) (List.mem_of_getElem? (i := 0) rfl) ⟨⟨0, _, rfl, kp_ok (ok_7 (k := ((κr2091 (κ w).2.2.2).1, (κr2091 (κ w).2.2.2).2.1, _, _)) hsu.1 ⟨_, _, _, _, _, _, _, _, rfl, (by omega), (Or.inr ⟨_, rfl, (t2kp hq2090)⟩), (Or.inr ⟨_, rfl⟩), ⟨(t2kp t2092_4).1, by rw [hsu.2]; exact (t2kp t2092_4).2⟩, ⟨(t2kp t2092_5).1, by rw [hsu.2]; exact (t2kp t2092_5).2⟩, ⟨(t2kp t2092_6).1, by rw [hsu.2]; exact (t2kp t2092_6).2⟩, ⟨(t2kp t2092_7).1, by rw [hsu.2]; exact (t2kp t2092_7).2⟩⟩)⟩, trivial⟩
                have hL : OkL B0 _ := hB.2.2.2.2.2
                have hsu := t2kp (x := 1) (y := 0) (a := (κ w).2.2.2) hsu
                refine W.know (fun hg => ?_)
                rw [hH0] at hg
                exact en_i hx hb hr hlocks hL rfl (show 3 ≤ 3 by omega) (show ((0 + 2) + 616) ≤ 618 by omega) dX5_readStatement_132 (⟨_, (fun a h1 h2 => (kp_n h2).trans (hKX a h1)), hT, hF, hsu, Or.inr ⟨hmg1, by rw [kp_a], hg.mono (by omega) (by omega)⟩, Or.inr rfl⟩)
            · refine va_getN (D := D) (ci := 6) (v := .ref a2085) (C := RX6) (T := TX6) (N := 8) hx hb hts iX5_readStatement_6 hown hN.1 hP 0 rfl rfl 3 (by decide) (hN.f 44 rfl) (fun _ h9 => h9) rfl dX5_readStatement_89 ?_
              refine lv_ifnonnull (tgt := 133) hx hb dX5_readStatement_92 (by decide) ?_
              refine lv_aload_n hx hb dX5_readStatement_133 rfl (lv_at hl 0 rfl) ?_
              refine lv_bipush (v := (-2)) hx hb dX5_readStatement_134 (by decide) ?_
              refine lv_aload_n hx hb dX5_readStatement_136 rfl (lv_at hl 0 rfl) ?_
              refine va_get (D := D) (ci := 5) (v := .int (nI f2083_5)) (C := RX5) (T := TX5) (N := 14) hx hb hts iX5_readStatement_5 hown hN.1 hP 1 rfl rfl 5 (by decide) (hts _ mX5_readStatement_7) (fun _ h9 => h9) rfl dX5_readStatement_137 ?_
              refine cv_i (As := [.int (-2), .int (nI f2083_5)]) (rest := []) (b := w) ⟨hx, hb, hml, hown, hts⟩ (c_X5_fail hT (w := w) hw (x := (-2)) (y := (nI f2083_5))) (cwV 2 hts gX5_readStatement_X5_fail rfl rfl rfl hdX5_fail_v ⟨Nat.le_of_ble_eq_true rfl, Nat.le_of_ble_eq_true rfl⟩) hN hE hL (rcv6 hN hT hw.1) rfl rfl hl.1 (Nat.le_of_ble_eq_true rfl) dX5_readStatement_140 (Nat.zero_le _) (Nat.zero_le _) (fun r2093 H1 locs hL hqr2093 => ?_)
              obtain ⟨hT1, hF1, hqr2093⟩ := hqr2093
              have hP : va_P D vwCl [((κ w).2.2.2, .inr (6, [.int (nI f2084_0), .int f2084_1, .int f2084_2, .ref a2085, .ref f2084_4, .ref f2084_5, .ref f2084_6, .ref f2084_7]))] _ := hF1.hP (hP.sub [0] rfl) (fa_c ⟨by rw [hsu.1]; decide, by rw [hsu.2]; first | decide | (simp; done) | (simp; omega)⟩ fa_n)
              have hF := hF.tr (hF1.mono (by simp))
              have hT := hT1
              obtain rfl := hqr2093
              refine W.know (fun hg => ?_)
              rw [hH0] at hg
              exact en_i hx hb hr hlocks hL rfl (Nat.zero_le _) (Nat.zero_le _) dX5_readStatement_143 (⟨_, (fun _ _ _ => rfl), hT, hF, hsu, Or.inl ⟨rfl, hg⟩, Or.inl rfl⟩)
        · refine lv_if_eq (tgt := 76) hx hb dX5_readStatement_58 (by decide) (fun c9 => absurd c9 (by decide)) (fun _ => ?_)
          refine lv_aload_n hx hb dX5_readStatement_61 rfl (lv_at hl 0 rfl) ?_
          obtain ⟨hb2094, e2094, hat2094, hk2094⟩ := hT.o6 hw.1
          obtain ⟨f2094_0, f2094_2, f2094_3, f2094_4, f2094_5, f2094_6, f2094_7, f2094_8, f2094_9, f2094_10, f2094_11, f2094_12, f2094_13, rfl, c2094_1, c2094_2, c2094_3, c2094_5, c2094_10, t2094_0, t2094_9, c2094_11, c2094_p2⟩ := hk2094
          obtain rfl : f2094_11 = .ref (κ w).2.2.2 := c2094_p2.resolve_left hs0
          have hP : va_P D vwCl [(w, .inr (5, [.ref f2094_0, .int (nI ((κ w).2.2.1)), .int (nI f2094_2), .int (nI f2094_3), .int f2094_4, .int (nI f2094_5), .int f2094_6, .int f2094_7, .int f2094_8, .ref f2094_9, .int (nI f2094_10), .ref (κ w).2.2.2, .int f2094_12, .int f2094_13]))] _ := va_P.cons hat2094 va_P.nil
          refine va_get (D := D) (ci := 5) (v := .ref (κ w).2.2.2) (C := RX5) (T := TX5) (N := 14) hx hb hts iX5_readStatement_5 hown hN.1 hP 0 rfl rfl 11 (by decide) (hts _ mX5_readStatement_1) (fun _ h9 => h9) rfl dX5_readStatement_62 ?_
          obtain ⟨hb2095, e2095, hat2095, hk2095⟩ := hT.o7 hsu.1
          obtain ⟨f2095_0, f2095_1, f2095_2, f2095_3, f2095_4, f2095_5, f2095_6, f2095_7, rfl, c2095_0, c2095_3, c2095_mg, t2095_4, t2095_5, t2095_6, t2095_7⟩ := hk2095
          rw [hsu.2] at t2095_4
          rw [hsu.2] at t2095_5
          rw [hsu.2] at t2095_6
          rw [hsu.2] at t2095_7
          have hP : va_P D vwCl [((κ w).2.2.2, .inr (6, [.int (nI f2095_0), .int f2095_1, .int f2095_2, f2095_3, .ref f2095_4, .ref f2095_5, .ref f2095_6, .ref f2095_7])), (w, .inr (5, [.ref f2094_0, .int (nI ((κ w).2.2.1)), .int (nI f2094_2), .int (nI f2094_3), .int f2094_4, .int (nI f2094_5), .int f2094_6, .int f2094_7, .int f2094_8, .ref f2094_9, .int (nI f2094_10), .ref (κ w).2.2.2, .int f2094_12, .int f2094_13]))] _ := va_P.cons hat2095 hP
          refine va_getN (D := D) (ci := 6) (v := .int f2095_2) (C := RX6) (T := TX6) (N := 8) hx hb hts iX5_readStatement_6 hown hN.1 hP 0 rfl rfl 2 (by decide) (hN.f 42 rfl) (fun _ h9 => h9) rfl dX5_readStatement_65 ?_
          refine lv_if_ne (tgt := 76) hx hb dX5_readStatement_68 (by decide) (fun c2096 => ?_) (fun c2096 => ?_)
          · refine lv_aload_n hx hb dX5_readStatement_76 rfl (lv_at hl 0 rfl) ?_
            refine va_ldcS hx hb hown (hN.s 6 rfl) dX5_readStatement_77 ?_
            refine cv_i (As := [.ref (cs 106)]) (rest := []) (b := w) ⟨hx, hb, hml, hown, hts⟩ (c_X5_isWord hT (w := w) hw (i := 6) (by decide)) (cwV 1 hts gX5_readStatement_X5_isWord rfl rfl rfl hdX5_isWord_v ⟨Nat.le_of_ble_eq_true rfl, Nat.le_of_ble_eq_true rfl⟩) hN hE hL (rcv6 hN hT hw.1) rfl rfl hl.1 (Nat.le_of_ble_eq_true rfl) dX5_readStatement_79 (Nat.zero_le _) (Nat.zero_le _) (fun r2097 H1 locs hL hqr2097 => ?_)
            obtain ⟨h9, hqr2097⟩ := hqr2097; replace h9 := h9.symm; subst h9
            rcases hqr2097 with rfl | rfl
            · refine lv_if_eq (tgt := 133) hx hb dX5_readStatement_82 (by decide) (fun _ => ?_) (fun c9 => absurd (by decide) c9)
              refine lv_aload_n hx hb dX5_readStatement_133 rfl (lv_at hl 0 rfl) ?_
              refine lv_bipush (v := (-2)) hx hb dX5_readStatement_134 (by decide) ?_
              refine lv_aload_n hx hb dX5_readStatement_136 rfl (lv_at hl 0 rfl) ?_
              refine va_get (D := D) (ci := 5) (v := .int (nI f2094_5)) (C := RX5) (T := TX5) (N := 14) hx hb hts iX5_readStatement_5 hown hN.1 hP 1 rfl rfl 5 (by decide) (hts _ mX5_readStatement_7) (fun _ h9 => h9) rfl dX5_readStatement_137 ?_
              refine cv_i (As := [.int (-2), .int (nI f2094_5)]) (rest := []) (b := w) ⟨hx, hb, hml, hown, hts⟩ (c_X5_fail hT (w := w) hw (x := (-2)) (y := (nI f2094_5))) (cwV 2 hts gX5_readStatement_X5_fail rfl rfl rfl hdX5_fail_v ⟨Nat.le_of_ble_eq_true rfl, Nat.le_of_ble_eq_true rfl⟩) hN hE hL (rcv6 hN hT hw.1) rfl rfl hl.1 (Nat.le_of_ble_eq_true rfl) dX5_readStatement_140 (Nat.zero_le _) (Nat.zero_le _) (fun r2098 H1 locs hL hqr2098 => ?_)
              obtain ⟨hT1, hF1, hqr2098⟩ := hqr2098
              have hP : va_P D vwCl [((κ w).2.2.2, .inr (6, [.int (nI f2095_0), .int f2095_1, .int f2095_2, f2095_3, .ref f2095_4, .ref f2095_5, .ref f2095_6, .ref f2095_7]))] _ := hF1.hP (hP.sub [0] rfl) (fa_c ⟨by rw [hsu.1]; decide, by rw [hsu.2]; first | decide | (simp; done) | (simp; omega)⟩ fa_n)
              have hF := hF.tr (hF1.mono (by simp))
              have hT := hT1
              obtain rfl := hqr2098
              refine W.know (fun hg => ?_)
              rw [hH0] at hg
              exact en_i hx hb hr hlocks hL rfl (Nat.zero_le _) (Nat.zero_le _) dX5_readStatement_143 (⟨_, (fun _ _ _ => rfl), hT, hF, hsu, Or.inl ⟨rfl, hg⟩, Or.inl rfl⟩)
            · refine lv_if_eq (tgt := 133) hx hb dX5_readStatement_82 (by decide) (fun c9 => absurd c9 (by decide)) (fun _ => ?_)
              refine lv_aload_n hx hb dX5_readStatement_85 rfl (lv_at hl 0 rfl) ?_
              refine va_get (D := D) (ci := 5) (v := .ref (κ w).2.2.2) (C := RX5) (T := TX5) (N := 14) hx hb hts iX5_readStatement_5 hown hN.1 hP 1 rfl rfl 11 (by decide) (hts _ mX5_readStatement_1) (fun _ h9 => h9) rfl dX5_readStatement_86 ?_
              rcases c2095_3 with rfl | ⟨a2099, rfl, ta2099⟩
              · refine va_getN (D := D) (ci := 6) (v := .null) (C := RX6) (T := TX6) (N := 8) hx hb hts iX5_readStatement_6 hown hN.1 hP 0 rfl rfl 3 (by decide) (hN.f 44 rfl) (fun _ h9 => h9) rfl dX5_readStatement_89 ?_
                refine lv_ifnonnullN hx hb dX5_readStatement_92 ?_
                have hmg1 : (κ (κ w).2.2.2).2.2.1 ≠ 1 := (c2095_mg).resolve_right (by rintro ⟨_, h9⟩; cases h9)
                refine lv_aload_n hx hb dX5_readStatement_95 rfl (lv_at hl 0 rfl) ?_
                refine cv_v (As := []) (rest := []) (b := w) ⟨hx, hb, hml, hown, hts⟩ (c_X5_step hT (w := w) hw) (cwV 0 hts gX5_readStatement_X5_step rfl rfl rfl hdX5_step_v ⟨Nat.le_of_ble_eq_true rfl, Nat.le_of_ble_eq_true rfl⟩) hN hE hL (rcv6 hN hT hw.1) rfl rfl hl.1 (Nat.le_of_ble_eq_true rfl) dX5_readStatement_96 (Nat.zero_le _) (Nat.zero_le _) (fun H1 locs hL hqr2100 => ?_)
                obtain ⟨hT1, hF1, hqr2100⟩ := hqr2100
                have hP : va_P D vwCl [((κ w).2.2.2, .inr (6, [.int (nI f2095_0), .int f2095_1, .int f2095_2, .null, .ref f2095_4, .ref f2095_5, .ref f2095_6, .ref f2095_7]))] _ := hF1.hP (hP.sub [0] rfl) (fa_c ⟨by rw [hsu.1]; decide, by rw [hsu.2]; first | decide | (simp; done) | (simp; omega)⟩ fa_n)
                have hF := hF.tr (hF1.mono (by simp))
                have hT := hT1
                have f2101 := hqr2100
                refine lv_aload_n hx hb dX5_readStatement_99 rfl (lv_at hl 0 rfl) ?_
                refine lv_iconst (v := 0) hx hb dX5_readStatement_100 (by decide) ?_
                refine cv_i (As := [.int 0]) (rest := []) (b := w) ⟨hx, hb, hml, hown, hts⟩ (c_X5_readSum_d0 hT (w := w) hw) (cwV 1 hts gX5_readStatement_X5_readSum rfl rfl rfl hdX5_readSum_v ⟨Nat.le_of_ble_eq_true rfl, Nat.le_of_ble_eq_true rfl⟩) hN hE hL (rcv6 hN hT hw.1) rfl rfl hl.1 (Nat.le_of_ble_eq_true rfl) dX5_readStatement_101 (Nat.zero_le _) (Nat.zero_le _) (fun r2102 H1 locs hL hqr2102 => ?_)
                obtain ⟨hT1, hF1, hqr2102⟩ := hqr2102
                have hP : va_P D vwCl [((κ w).2.2.2, .inr (6, [.int (nI f2095_0), .int f2095_1, .int f2095_2, .null, .ref f2095_4, .ref f2095_5, .ref f2095_6, .ref f2095_7]))] _ := hF1.hP (hP.sub [0] rfl) (fa_c ⟨by rw [hsu.1]; decide, by rw [hsu.2]; first | decide | (simp; done) | (simp; omega)⟩ fa_n)
                have hF := hF.tr (hF1.mono (by simp))
                have hT := hT1
                rcases hqr2102 with rfl | rfl
                · refine lv_if_ne (tgt := 109) hx hb dX5_readStatement_104 (by decide) (fun c9 => absurd (by decide) c9) (fun _ => ?_)
                  refine lv_iconst (v := 0) hx hb dX5_readStatement_107 (by decide) ?_
                  refine W.know (fun hg => ?_)
                  rw [hH0] at hg
                  exact en_i hx hb hr hlocks hL rfl (Nat.zero_le _) (Nat.zero_le _) dX5_readStatement_108 (⟨_, (fun _ _ _ => rfl), hT, hF, hsu, Or.inl ⟨rfl, hg⟩, Or.inl rfl⟩)
                · refine lv_if_ne (tgt := 109) hx hb dX5_readStatement_104 (by decide) (fun _ => ?_) (fun c9 => absurd c9 (by decide))
                  refine lv_aload_n hx hb dX5_readStatement_109 rfl (lv_at hl 0 rfl) ?_
                  obtain ⟨hb2103, e2103, hat2103, hk2103⟩ := hT.o6 hw.1
                  obtain ⟨f2103_0, f2103_2, f2103_3, f2103_4, f2103_5, f2103_6, f2103_7, f2103_8, f2103_9, f2103_10, f2103_11, f2103_12, f2103_13, rfl, c2103_1, c2103_2, c2103_3, c2103_5, c2103_10, t2103_0, t2103_9, c2103_11, c2103_p2⟩ := hk2103
                  obtain rfl : f2103_11 = .ref (κ w).2.2.2 := c2103_p2.resolve_left hs0
                  have hP : va_P D vwCl [(w, .inr (5, [.ref f2103_0, .int (nI ((κ w).2.2.1)), .int (nI f2103_2), .int (nI f2103_3), .int f2103_4, .int (nI f2103_5), .int f2103_6, .int f2103_7, .int f2103_8, .ref f2103_9, .int (nI f2103_10), .ref (κ w).2.2.2, .int f2103_12, .int f2103_13])), ((κ w).2.2.2, .inr (6, [.int (nI f2095_0), .int f2095_1, .int f2095_2, .null, .ref f2095_4, .ref f2095_5, .ref f2095_6, .ref f2095_7]))] _ := va_P.cons hat2103 hP
                  refine va_get (D := D) (ci := 5) (v := .ref (κ w).2.2.2) (C := RX5) (T := TX5) (N := 14) hx hb hts iX5_readStatement_5 hown hN.1 hP 0 rfl rfl 11 (by decide) (hts _ mX5_readStatement_1) (fun _ h9 => h9) rfl dX5_readStatement_110 ?_
                  have hb0 : B0 ≤ _ := hT.b0 hw (by decide)
                  have hB : Bx B0 D _ [(w, .inr (5, [.ref f2103_0, .int (nI ((κ w).2.2.1)), .int (nI f2103_2), .int (nI f2103_3), .int f2103_4, .int (nI f2103_5), .int f2103_6, .int f2103_7, .int f2103_8, .ref f2103_9, .int (nI f2103_10), .ref (κ w).2.2.2, .int f2103_12, .int f2103_13])), ((κ w).2.2.2, .inr (6, [.int (nI f2095_0), .int f2095_1, .int f2095_2, .null, .ref f2095_4, .ref f2095_5, .ref f2095_6, .ref f2095_7]))] [] _ _ := Bx.of (fun a => (κ a).1) hL hP (fa_c hb2103 (fa_c hb2095 fa_n)) (by simp only [List.map_cons, List.map_nil, hw.1, hsu.1]; decide)
                  refine nw_o (ci := 0) (fs := [.null, .null]) (C := RX0) (T := TX0) (N := 2) hx hb hts iX5_readStatement_0 tyX0 tyX0_ok hown (hts _ mX5_readStatement_2) (hts _ mX5_readStatement_3) (hts _ mX5_readStatement_4) hN rfl dfl0 (show 0 + 1 ≤ 3 by omega) (show 0 + 2 ≤ 618 by omega) dX5_readStatement_113 (fun q2104 H heq2104 hzq2104 hoq2104 hatq2104 => ?_)
                  have hgeq2104 : _ ≤ q2104 := Nat.le_trans hB.2.2.1 (Nat.le_of_eq heq2104.symm)
                  have hbq2104 : B0 ≤ q2104 := Nat.le_trans hb0 hgeq2104
                  have hfq2104 : (κ q2104).1 = 0 := hT.fresh hgeq2104
                  have hB := hB.nw heq2104 hzq2104 hoq2104 hatq2104 hb0
                  have hB : Bx B0 D _ [(w, .inr (5, [.ref f2103_0, .int (nI ((κ w).2.2.1)), .int (nI f2103_2), .int (nI f2103_3), .int f2103_4, .int (nI f2103_5), .int f2103_6, .int f2103_7, .int f2103_8, .ref f2103_9, .int (nI f2103_10), .ref (κ w).2.2.2, .int f2103_12, .int f2103_13])), ((κ w).2.2.2, .inr (6, [.int (nI f2095_0), .int f2095_1, .int f2095_2, .null, .ref f2095_4, .ref f2095_5, .ref f2095_6, .ref f2095_7])), (q2104, .inr (0, [.null, .null]))] [] _ _ := hB
                  refine lv_dup hx hb dX5_readStatement_116 rfl ?_
                  refine lv_aload_n hx hb dX5_readStatement_117 rfl (lv_at hl 0 rfl) ?_
                  refine va_get (D := D) (ci := 5) (v := .ref f2103_9) (C := RX5) (T := TX5) (N := 14) hx hb hts iX5_readStatement_5 hown hN.1 hB.1 0 rfl rfl 9 (by decide) (hts _ mX5_readStatement_5) (fun _ h9 => h9) rfl dX5_readStatement_118 ?_
                  refine lv_aload_n hx hb dX5_readStatement_121 rfl (lv_at hl 0 rfl) ?_
                  refine va_get (D := D) (ci := 5) (v := .int (nI f2103_10)) (C := RX5) (T := TX5) (N := 14) hx hb hts iX5_readStatement_5 hown hN.1 hB.1 0 rfl rfl 10 (by decide) (hts _ mX5_readStatement_6) (fun _ h9 => h9) rfl dX5_readStatement_122 ?_
                  have hT : WT B0 D cs T κ _ := hT.close hB trivial
                  have hF : Fr B0 [10, 11] κ H0 _ := hF.close hB fa_n
                  have hL : OkL B0 _ := hB.2.2.2.2.2
                  have hP : va_P D vwCl [(w, .inr (5, [.ref f2103_0, .int (nI ((κ w).2.2.1)), .int (nI f2103_2), .int (nI f2103_3), .int f2103_4, .int (nI f2103_5), .int f2103_6, .int f2103_7, .int f2103_8, .ref f2103_9, .int (nI f2103_10), .ref (κ w).2.2.2, .int f2103_12, .int f2103_13])), ((κ w).2.2.2, .inr (6, [.int (nI f2095_0), .int f2095_1, .int f2095_2, .null, .ref f2095_4, .ref f2095_5, .ref f2095_6, .ref f2095_7])), (q2104, .inr (0, [.null, .null]))] _ := hB.1
                  refine ci_v (As := [.ref f2103_9, .int (nI f2103_10)]) (rest := [.ref q2104, .ref (κ w).2.2.2]) (b := q2104) ⟨hx, hb, hml, hown, hts⟩ (c_X0_init hT (w := q2104) hfq2104 hbq2104 (hP 2 _ rfl) (v := f2103_9) t2103_9 (n := f2103_10) (by first | omega | decide | assumption)) (cwI 2 hts gX5_readStatement_X0_init rfl rfl rfl (hts _ mX5_readStatement_4) (hts _ mX5_readStatement_156) (hts _ mX5_readStatement_157) rfl hdX0_init_o ⟨Nat.le_of_ble_eq_true rfl, Nat.le_of_ble_eq_true rfl⟩) hN hE hL rfl rfl hl.1 (Nat.le_of_ble_eq_true rfl) dX5_readStatement_125 (show 1 + 2 ≤ 3 by omega) (show (0 + 2) + 616 ≤ 618 by omega) (fun H1 locs hL hqr2105 => ?_)
                  obtain ⟨κr2105, hxr2105, hT1, hF1, hqr2105⟩ := hqr2105
                  have hF := hF.tr (hF1.mono (by simp))
                  have hT := hT1
                  have hKF : KF κ κr2105 := hxr2105.f
                  have hKX : KX κ κr2105 := hxr2105
                  have hw := (hxr2105.f.t2 hw (by decide))
                  have hsu := (hxr2105.f.t2 hsu (by decide))
                  have hq2104 := hqr2105
                  obtain ⟨hb2106, e2106, hat2106, hk2106⟩ := hT.o7 hsu.1
                  obtain ⟨f2106_0, f2106_1, f2106_2, f2106_3, f2106_4, f2106_5, f2106_6, f2106_7, rfl, c2106_0, c2106_3, c2106_mg, t2106_4, t2106_5, t2106_6, t2106_7⟩ := hk2106
                  rw [hsu.2] at t2106_4
                  rw [hsu.2] at t2106_5
                  rw [hsu.2] at t2106_6
                  rw [hsu.2] at t2106_7
                  have hP : va_P D vwCl [((κ w).2.2.2, .inr (6, [.int (nI f2106_0), .int f2106_1, .int f2106_2, f2106_3, .ref f2106_4, .ref f2106_5, .ref f2106_6, .ref f2106_7]))] _ := va_P.cons hat2106 va_P.nil
                  have hB : Bx B0 D _ [((κ w).2.2.2, .inr (6, [.int (nI f2106_0), .int f2106_1, .int f2106_2, f2106_3, .ref f2106_4, .ref f2106_5, .ref f2106_6, .ref f2106_7]))] [] _ _ := Bx.of (fun a => (κr2105 a).1) hL hP (fa_c hb2106 fa_n) (by simp only [List.map_cons, List.map_nil, hsu.1]; decide)
                  refine b_putN (D := D) (ci := 6) (v := .ref q2104) (ty := .object "OneBeat$Formula") (C := RX6) (T := TX6) (N := 8) hx hb hts iX5_readStatement_6 tyX6 tyX6_ok nmX6 hown hN hB 0 rfl rfl 3 (by decide) (hN.f 44 rfl) (fun _ h9 => h9) rfl (by decide +kernel) rfl rfl (Nat.le_of_ble_eq_true rfl) (.inl rfl) dX5_readStatement_128 (fun H locs hB => ?_)
                  have hB : Bx B0 D _ [((κ w).2.2.2, .inr (6, [.int (nI f2106_0), .int f2106_1, .int f2106_2, .ref q2104, .ref f2106_4, .ref f2106_5, .ref f2106_6, .ref f2106_7]))] [(κ w).2.2.2] _ _ := hB
                  refine lv_iconst (v := 1) hx hb dX5_readStatement_131 (by decide) ?_
                  have hF : Fr B0 [10, 11] κ H0 _ := hF.closeN hB (fa_c (fun h9 => by rw [← (hKF _ h9).2, hsu.2]; simp) fa_n)
                  have hT : WT B0 D cs T (kp κr2105 (κ w).2.2.2 1 0) _ := hT.closeK (κ w).2.2.2 1 0 hB (by rw [hsu.1]; decide) (by rw [hsu.1]; decide) (List.mem_of_getElem? (i := 0) rfl) ⟨⟨0, _, rfl, kp_ok (ok_7 (k := ((κr2105 (κ w).2.2.2).1, (κr2105 (κ w).2.2.2).2.1, _, _)) hsu.1 ⟨_, _, _, _, _, _, _, _, rfl, (by omega), (Or.inr ⟨_, rfl, (t2kp hq2104)⟩), (Or.inr ⟨_, rfl⟩), ⟨(t2kp t2106_4).1, by rw [hsu.2]; exact (t2kp t2106_4).2⟩, ⟨(t2kp t2106_5).1, by rw [hsu.2]; exact (t2kp t2106_5).2⟩, ⟨(t2kp t2106_6).1, by rw [hsu.2]; exact (t2kp t2106_6).2⟩, ⟨(t2kp t2106_7).1, by rw [hsu.2]; exact (t2kp t2106_7).2⟩⟩)⟩, trivial⟩
                  have hL : OkL B0 _ := hB.2.2.2.2.2
                  have hsu := t2kp (x := 1) (y := 0) (a := (κ w).2.2.2) hsu
                  refine W.know (fun hg => ?_)
                  rw [hH0] at hg
                  exact en_i hx hb hr hlocks hL rfl (show 3 ≤ 3 by omega) (show ((0 + 2) + 616) ≤ 618 by omega) dX5_readStatement_132 (⟨_, (fun a h1 h2 => (kp_n h2).trans (hKX a h1)), hT, hF, hsu, Or.inr ⟨hmg1, by rw [kp_a], hg.mono (by omega) (by omega)⟩, Or.inr rfl⟩)
              · refine va_getN (D := D) (ci := 6) (v := .ref a2099) (C := RX6) (T := TX6) (N := 8) hx hb hts iX5_readStatement_6 hown hN.1 hP 0 rfl rfl 3 (by decide) (hN.f 44 rfl) (fun _ h9 => h9) rfl dX5_readStatement_89 ?_
                refine lv_ifnonnull (tgt := 133) hx hb dX5_readStatement_92 (by decide) ?_
                refine lv_aload_n hx hb dX5_readStatement_133 rfl (lv_at hl 0 rfl) ?_
                refine lv_bipush (v := (-2)) hx hb dX5_readStatement_134 (by decide) ?_
                refine lv_aload_n hx hb dX5_readStatement_136 rfl (lv_at hl 0 rfl) ?_
                refine va_get (D := D) (ci := 5) (v := .int (nI f2094_5)) (C := RX5) (T := TX5) (N := 14) hx hb hts iX5_readStatement_5 hown hN.1 hP 1 rfl rfl 5 (by decide) (hts _ mX5_readStatement_7) (fun _ h9 => h9) rfl dX5_readStatement_137 ?_
                refine cv_i (As := [.int (-2), .int (nI f2094_5)]) (rest := []) (b := w) ⟨hx, hb, hml, hown, hts⟩ (c_X5_fail hT (w := w) hw (x := (-2)) (y := (nI f2094_5))) (cwV 2 hts gX5_readStatement_X5_fail rfl rfl rfl hdX5_fail_v ⟨Nat.le_of_ble_eq_true rfl, Nat.le_of_ble_eq_true rfl⟩) hN hE hL (rcv6 hN hT hw.1) rfl rfl hl.1 (Nat.le_of_ble_eq_true rfl) dX5_readStatement_140 (Nat.zero_le _) (Nat.zero_le _) (fun r2107 H1 locs hL hqr2107 => ?_)
                obtain ⟨hT1, hF1, hqr2107⟩ := hqr2107
                have hP : va_P D vwCl [((κ w).2.2.2, .inr (6, [.int (nI f2095_0), .int f2095_1, .int f2095_2, .ref a2099, .ref f2095_4, .ref f2095_5, .ref f2095_6, .ref f2095_7]))] _ := hF1.hP (hP.sub [0] rfl) (fa_c ⟨by rw [hsu.1]; decide, by rw [hsu.2]; first | decide | (simp; done) | (simp; omega)⟩ fa_n)
                have hF := hF.tr (hF1.mono (by simp))
                have hT := hT1
                obtain rfl := hqr2107
                refine W.know (fun hg => ?_)
                rw [hH0] at hg
                exact en_i hx hb hr hlocks hL rfl (Nat.zero_le _) (Nat.zero_le _) dX5_readStatement_143 (⟨_, (fun _ _ _ => rfl), hT, hF, hsu, Or.inl ⟨rfl, hg⟩, Or.inl rfl⟩)
          · refine lv_aload_n hx hb dX5_readStatement_71 rfl (lv_at hl 0 rfl) ?_
            refine cv_i (As := []) (rest := []) (b := w) ⟨hx, hb, hml, hown, hts⟩ (c_X5_readPatience hT (w := w) hw (by first | omega | decide | assumption) (by first | omega | decide | assumption)) (cwV 0 hts gX5_readStatement_X5_readPatience rfl rfl rfl hdX5_readPatience_v ⟨Nat.le_of_ble_eq_true rfl, Nat.le_of_ble_eq_true rfl⟩) hN hE hL (rcv6 hN hT hw.1) rfl rfl hl.1 (Nat.le_of_ble_eq_true rfl) dX5_readStatement_72 (Nat.zero_le _) (Nat.zero_le _) (fun r2108 H1 locs hL hqr2108 => ?_)
            obtain ⟨hT1, hF1, hqr2108⟩ := hqr2108
            have hF := hF.tr (hF1.mono (by simp))
            have hT := hT1
            rcases hqr2108 with rfl | rfl
            · refine W.know (fun hg => ?_)
              rw [hH0] at hg
              exact en_i hx hb hr hlocks hL rfl (Nat.zero_le _) (Nat.zero_le _) dX5_readStatement_75 (⟨_, (fun _ _ _ => rfl), hT, hF, hsu, Or.inl ⟨rfl, hg⟩, Or.inl rfl⟩)
            · refine W.know (fun hg => ?_)
              rw [hH0] at hg
              exact en_i hx hb hr hlocks hL rfl (Nat.zero_le _) (Nat.zero_le _) dX5_readStatement_75 (⟨_, (fun _ _ _ => rfl), hT, hF, hsu, Or.inl ⟨rfl, hg⟩, Or.inr rfl⟩)
      · refine lv_if_eq (tgt := 52) hx hb dX5_readStatement_34 (by decide) (fun c9 => absurd c9 (by decide)) (fun _ => ?_)
        refine lv_aload_n hx hb dX5_readStatement_37 rfl (lv_at hl 0 rfl) ?_
        obtain ⟨hb2109, e2109, hat2109, hk2109⟩ := hT.o6 hw.1
        obtain ⟨f2109_0, f2109_2, f2109_3, f2109_4, f2109_5, f2109_6, f2109_7, f2109_8, f2109_9, f2109_10, f2109_11, f2109_12, f2109_13, rfl, c2109_1, c2109_2, c2109_3, c2109_5, c2109_10, t2109_0, t2109_9, c2109_11, c2109_p2⟩ := hk2109
        obtain rfl : f2109_11 = .ref (κ w).2.2.2 := c2109_p2.resolve_left hs0
        have hP : va_P D vwCl [(w, .inr (5, [.ref f2109_0, .int (nI ((κ w).2.2.1)), .int (nI f2109_2), .int (nI f2109_3), .int f2109_4, .int (nI f2109_5), .int f2109_6, .int f2109_7, .int f2109_8, .ref f2109_9, .int (nI f2109_10), .ref (κ w).2.2.2, .int f2109_12, .int f2109_13]))] _ := va_P.cons hat2109 va_P.nil
        refine va_get (D := D) (ci := 5) (v := .ref (κ w).2.2.2) (C := RX5) (T := TX5) (N := 14) hx hb hts iX5_readStatement_5 hown hN.1 hP 0 rfl rfl 11 (by decide) (hts _ mX5_readStatement_1) (fun _ h9 => h9) rfl dX5_readStatement_38 ?_
        obtain ⟨hb2110, e2110, hat2110, hk2110⟩ := hT.o7 hsu.1
        obtain ⟨f2110_0, f2110_1, f2110_2, f2110_3, f2110_4, f2110_5, f2110_6, f2110_7, rfl, c2110_0, c2110_3, c2110_mg, t2110_4, t2110_5, t2110_6, t2110_7⟩ := hk2110
        rw [hsu.2] at t2110_4
        rw [hsu.2] at t2110_5
        rw [hsu.2] at t2110_6
        rw [hsu.2] at t2110_7
        have hP : va_P D vwCl [((κ w).2.2.2, .inr (6, [.int (nI f2110_0), .int f2110_1, .int f2110_2, f2110_3, .ref f2110_4, .ref f2110_5, .ref f2110_6, .ref f2110_7])), (w, .inr (5, [.ref f2109_0, .int (nI ((κ w).2.2.1)), .int (nI f2109_2), .int (nI f2109_3), .int f2109_4, .int (nI f2109_5), .int f2109_6, .int f2109_7, .int f2109_8, .ref f2109_9, .int (nI f2109_10), .ref (κ w).2.2.2, .int f2109_12, .int f2109_13]))] _ := va_P.cons hat2110 hP
        refine va_getN (D := D) (ci := 6) (v := .int f2110_1) (C := RX6) (T := TX6) (N := 8) hx hb hts iX5_readStatement_6 hown hN.1 hP 0 rfl rfl 1 (by decide) (hN.f 40 rfl) (fun _ h9 => h9) rfl dX5_readStatement_41 ?_
        refine lv_if_ne (tgt := 52) hx hb dX5_readStatement_44 (by decide) (fun c2111 => ?_) (fun c2111 => ?_)
        · refine lv_aload_n hx hb dX5_readStatement_52 rfl (lv_at hl 0 rfl) ?_
          refine va_ldcS hx hb hown (hN.s 5 rfl) dX5_readStatement_53 ?_
          refine cv_i (As := [.ref (cs 105)]) (rest := []) (b := w) ⟨hx, hb, hml, hown, hts⟩ (c_X5_isWord hT (w := w) hw (i := 5) (by decide)) (cwV 1 hts gX5_readStatement_X5_isWord rfl rfl rfl hdX5_isWord_v ⟨Nat.le_of_ble_eq_true rfl, Nat.le_of_ble_eq_true rfl⟩) hN hE hL (rcv6 hN hT hw.1) rfl rfl hl.1 (Nat.le_of_ble_eq_true rfl) dX5_readStatement_55 (Nat.zero_le _) (Nat.zero_le _) (fun r2112 H1 locs hL hqr2112 => ?_)
          obtain ⟨h9, hqr2112⟩ := hqr2112; replace h9 := h9.symm; subst h9
          rcases hqr2112 with rfl | rfl
          · refine lv_if_eq (tgt := 76) hx hb dX5_readStatement_58 (by decide) (fun _ => ?_) (fun c9 => absurd (by decide) c9)
            refine lv_aload_n hx hb dX5_readStatement_76 rfl (lv_at hl 0 rfl) ?_
            refine va_ldcS hx hb hown (hN.s 6 rfl) dX5_readStatement_77 ?_
            refine cv_i (As := [.ref (cs 106)]) (rest := []) (b := w) ⟨hx, hb, hml, hown, hts⟩ (c_X5_isWord hT (w := w) hw (i := 6) (by decide)) (cwV 1 hts gX5_readStatement_X5_isWord rfl rfl rfl hdX5_isWord_v ⟨Nat.le_of_ble_eq_true rfl, Nat.le_of_ble_eq_true rfl⟩) hN hE hL (rcv6 hN hT hw.1) rfl rfl hl.1 (Nat.le_of_ble_eq_true rfl) dX5_readStatement_79 (Nat.zero_le _) (Nat.zero_le _) (fun r2113 H1 locs hL hqr2113 => ?_)
            obtain ⟨h9, hqr2113⟩ := hqr2113; replace h9 := h9.symm; subst h9
            rcases hqr2113 with rfl | rfl
            · refine lv_if_eq (tgt := 133) hx hb dX5_readStatement_82 (by decide) (fun _ => ?_) (fun c9 => absurd (by decide) c9)
              refine lv_aload_n hx hb dX5_readStatement_133 rfl (lv_at hl 0 rfl) ?_
              refine lv_bipush (v := (-2)) hx hb dX5_readStatement_134 (by decide) ?_
              refine lv_aload_n hx hb dX5_readStatement_136 rfl (lv_at hl 0 rfl) ?_
              refine va_get (D := D) (ci := 5) (v := .int (nI f2109_5)) (C := RX5) (T := TX5) (N := 14) hx hb hts iX5_readStatement_5 hown hN.1 hP 1 rfl rfl 5 (by decide) (hts _ mX5_readStatement_7) (fun _ h9 => h9) rfl dX5_readStatement_137 ?_
              refine cv_i (As := [.int (-2), .int (nI f2109_5)]) (rest := []) (b := w) ⟨hx, hb, hml, hown, hts⟩ (c_X5_fail hT (w := w) hw (x := (-2)) (y := (nI f2109_5))) (cwV 2 hts gX5_readStatement_X5_fail rfl rfl rfl hdX5_fail_v ⟨Nat.le_of_ble_eq_true rfl, Nat.le_of_ble_eq_true rfl⟩) hN hE hL (rcv6 hN hT hw.1) rfl rfl hl.1 (Nat.le_of_ble_eq_true rfl) dX5_readStatement_140 (Nat.zero_le _) (Nat.zero_le _) (fun r2114 H1 locs hL hqr2114 => ?_)
              obtain ⟨hT1, hF1, hqr2114⟩ := hqr2114
              have hP : va_P D vwCl [((κ w).2.2.2, .inr (6, [.int (nI f2110_0), .int f2110_1, .int f2110_2, f2110_3, .ref f2110_4, .ref f2110_5, .ref f2110_6, .ref f2110_7]))] _ := hF1.hP (hP.sub [0] rfl) (fa_c ⟨by rw [hsu.1]; decide, by rw [hsu.2]; first | decide | (simp; done) | (simp; omega)⟩ fa_n)
              have hF := hF.tr (hF1.mono (by simp))
              have hT := hT1
              obtain rfl := hqr2114
              refine W.know (fun hg => ?_)
              rw [hH0] at hg
              exact en_i hx hb hr hlocks hL rfl (Nat.zero_le _) (Nat.zero_le _) dX5_readStatement_143 (⟨_, (fun _ _ _ => rfl), hT, hF, hsu, Or.inl ⟨rfl, hg⟩, Or.inl rfl⟩)
            · refine lv_if_eq (tgt := 133) hx hb dX5_readStatement_82 (by decide) (fun c9 => absurd c9 (by decide)) (fun _ => ?_)
              refine lv_aload_n hx hb dX5_readStatement_85 rfl (lv_at hl 0 rfl) ?_
              refine va_get (D := D) (ci := 5) (v := .ref (κ w).2.2.2) (C := RX5) (T := TX5) (N := 14) hx hb hts iX5_readStatement_5 hown hN.1 hP 1 rfl rfl 11 (by decide) (hts _ mX5_readStatement_1) (fun _ h9 => h9) rfl dX5_readStatement_86 ?_
              rcases c2110_3 with rfl | ⟨a2115, rfl, ta2115⟩
              · refine va_getN (D := D) (ci := 6) (v := .null) (C := RX6) (T := TX6) (N := 8) hx hb hts iX5_readStatement_6 hown hN.1 hP 0 rfl rfl 3 (by decide) (hN.f 44 rfl) (fun _ h9 => h9) rfl dX5_readStatement_89 ?_
                refine lv_ifnonnullN hx hb dX5_readStatement_92 ?_
                have hmg1 : (κ (κ w).2.2.2).2.2.1 ≠ 1 := (c2110_mg).resolve_right (by rintro ⟨_, h9⟩; cases h9)
                refine lv_aload_n hx hb dX5_readStatement_95 rfl (lv_at hl 0 rfl) ?_
                refine cv_v (As := []) (rest := []) (b := w) ⟨hx, hb, hml, hown, hts⟩ (c_X5_step hT (w := w) hw) (cwV 0 hts gX5_readStatement_X5_step rfl rfl rfl hdX5_step_v ⟨Nat.le_of_ble_eq_true rfl, Nat.le_of_ble_eq_true rfl⟩) hN hE hL (rcv6 hN hT hw.1) rfl rfl hl.1 (Nat.le_of_ble_eq_true rfl) dX5_readStatement_96 (Nat.zero_le _) (Nat.zero_le _) (fun H1 locs hL hqr2116 => ?_)
                obtain ⟨hT1, hF1, hqr2116⟩ := hqr2116
                have hP : va_P D vwCl [((κ w).2.2.2, .inr (6, [.int (nI f2110_0), .int f2110_1, .int f2110_2, .null, .ref f2110_4, .ref f2110_5, .ref f2110_6, .ref f2110_7]))] _ := hF1.hP (hP.sub [0] rfl) (fa_c ⟨by rw [hsu.1]; decide, by rw [hsu.2]; first | decide | (simp; done) | (simp; omega)⟩ fa_n)
                have hF := hF.tr (hF1.mono (by simp))
                have hT := hT1
                have f2117 := hqr2116
                refine lv_aload_n hx hb dX5_readStatement_99 rfl (lv_at hl 0 rfl) ?_
                refine lv_iconst (v := 0) hx hb dX5_readStatement_100 (by decide) ?_
                refine cv_i (As := [.int 0]) (rest := []) (b := w) ⟨hx, hb, hml, hown, hts⟩ (c_X5_readSum_d0 hT (w := w) hw) (cwV 1 hts gX5_readStatement_X5_readSum rfl rfl rfl hdX5_readSum_v ⟨Nat.le_of_ble_eq_true rfl, Nat.le_of_ble_eq_true rfl⟩) hN hE hL (rcv6 hN hT hw.1) rfl rfl hl.1 (Nat.le_of_ble_eq_true rfl) dX5_readStatement_101 (Nat.zero_le _) (Nat.zero_le _) (fun r2118 H1 locs hL hqr2118 => ?_)
                obtain ⟨hT1, hF1, hqr2118⟩ := hqr2118
                have hP : va_P D vwCl [((κ w).2.2.2, .inr (6, [.int (nI f2110_0), .int f2110_1, .int f2110_2, .null, .ref f2110_4, .ref f2110_5, .ref f2110_6, .ref f2110_7]))] _ := hF1.hP (hP.sub [0] rfl) (fa_c ⟨by rw [hsu.1]; decide, by rw [hsu.2]; first | decide | (simp; done) | (simp; omega)⟩ fa_n)
                have hF := hF.tr (hF1.mono (by simp))
                have hT := hT1
                rcases hqr2118 with rfl | rfl
                · refine lv_if_ne (tgt := 109) hx hb dX5_readStatement_104 (by decide) (fun c9 => absurd (by decide) c9) (fun _ => ?_)
                  refine lv_iconst (v := 0) hx hb dX5_readStatement_107 (by decide) ?_
                  refine W.know (fun hg => ?_)
                  rw [hH0] at hg
                  exact en_i hx hb hr hlocks hL rfl (Nat.zero_le _) (Nat.zero_le _) dX5_readStatement_108 (⟨_, (fun _ _ _ => rfl), hT, hF, hsu, Or.inl ⟨rfl, hg⟩, Or.inl rfl⟩)
                · refine lv_if_ne (tgt := 109) hx hb dX5_readStatement_104 (by decide) (fun _ => ?_) (fun c9 => absurd c9 (by decide))
                  refine lv_aload_n hx hb dX5_readStatement_109 rfl (lv_at hl 0 rfl) ?_
                  obtain ⟨hb2119, e2119, hat2119, hk2119⟩ := hT.o6 hw.1
                  obtain ⟨f2119_0, f2119_2, f2119_3, f2119_4, f2119_5, f2119_6, f2119_7, f2119_8, f2119_9, f2119_10, f2119_11, f2119_12, f2119_13, rfl, c2119_1, c2119_2, c2119_3, c2119_5, c2119_10, t2119_0, t2119_9, c2119_11, c2119_p2⟩ := hk2119
                  obtain rfl : f2119_11 = .ref (κ w).2.2.2 := c2119_p2.resolve_left hs0
                  have hP : va_P D vwCl [(w, .inr (5, [.ref f2119_0, .int (nI ((κ w).2.2.1)), .int (nI f2119_2), .int (nI f2119_3), .int f2119_4, .int (nI f2119_5), .int f2119_6, .int f2119_7, .int f2119_8, .ref f2119_9, .int (nI f2119_10), .ref (κ w).2.2.2, .int f2119_12, .int f2119_13])), ((κ w).2.2.2, .inr (6, [.int (nI f2110_0), .int f2110_1, .int f2110_2, .null, .ref f2110_4, .ref f2110_5, .ref f2110_6, .ref f2110_7]))] _ := va_P.cons hat2119 hP
                  refine va_get (D := D) (ci := 5) (v := .ref (κ w).2.2.2) (C := RX5) (T := TX5) (N := 14) hx hb hts iX5_readStatement_5 hown hN.1 hP 0 rfl rfl 11 (by decide) (hts _ mX5_readStatement_1) (fun _ h9 => h9) rfl dX5_readStatement_110 ?_
                  have hb0 : B0 ≤ _ := hT.b0 hw (by decide)
                  have hB : Bx B0 D _ [(w, .inr (5, [.ref f2119_0, .int (nI ((κ w).2.2.1)), .int (nI f2119_2), .int (nI f2119_3), .int f2119_4, .int (nI f2119_5), .int f2119_6, .int f2119_7, .int f2119_8, .ref f2119_9, .int (nI f2119_10), .ref (κ w).2.2.2, .int f2119_12, .int f2119_13])), ((κ w).2.2.2, .inr (6, [.int (nI f2110_0), .int f2110_1, .int f2110_2, .null, .ref f2110_4, .ref f2110_5, .ref f2110_6, .ref f2110_7]))] [] _ _ := Bx.of (fun a => (κ a).1) hL hP (fa_c hb2119 (fa_c hb2110 fa_n)) (by simp only [List.map_cons, List.map_nil, hw.1, hsu.1]; decide)
                  refine nw_o (ci := 0) (fs := [.null, .null]) (C := RX0) (T := TX0) (N := 2) hx hb hts iX5_readStatement_0 tyX0 tyX0_ok hown (hts _ mX5_readStatement_2) (hts _ mX5_readStatement_3) (hts _ mX5_readStatement_4) hN rfl dfl0 (show 0 + 1 ≤ 3 by omega) (show 0 + 2 ≤ 618 by omega) dX5_readStatement_113 (fun q2120 H heq2120 hzq2120 hoq2120 hatq2120 => ?_)
                  have hgeq2120 : _ ≤ q2120 := Nat.le_trans hB.2.2.1 (Nat.le_of_eq heq2120.symm)
                  have hbq2120 : B0 ≤ q2120 := Nat.le_trans hb0 hgeq2120
                  have hfq2120 : (κ q2120).1 = 0 := hT.fresh hgeq2120
                  have hB := hB.nw heq2120 hzq2120 hoq2120 hatq2120 hb0
                  have hB : Bx B0 D _ [(w, .inr (5, [.ref f2119_0, .int (nI ((κ w).2.2.1)), .int (nI f2119_2), .int (nI f2119_3), .int f2119_4, .int (nI f2119_5), .int f2119_6, .int f2119_7, .int f2119_8, .ref f2119_9, .int (nI f2119_10), .ref (κ w).2.2.2, .int f2119_12, .int f2119_13])), ((κ w).2.2.2, .inr (6, [.int (nI f2110_0), .int f2110_1, .int f2110_2, .null, .ref f2110_4, .ref f2110_5, .ref f2110_6, .ref f2110_7])), (q2120, .inr (0, [.null, .null]))] [] _ _ := hB
                  refine lv_dup hx hb dX5_readStatement_116 rfl ?_
                  refine lv_aload_n hx hb dX5_readStatement_117 rfl (lv_at hl 0 rfl) ?_
                  refine va_get (D := D) (ci := 5) (v := .ref f2119_9) (C := RX5) (T := TX5) (N := 14) hx hb hts iX5_readStatement_5 hown hN.1 hB.1 0 rfl rfl 9 (by decide) (hts _ mX5_readStatement_5) (fun _ h9 => h9) rfl dX5_readStatement_118 ?_
                  refine lv_aload_n hx hb dX5_readStatement_121 rfl (lv_at hl 0 rfl) ?_
                  refine va_get (D := D) (ci := 5) (v := .int (nI f2119_10)) (C := RX5) (T := TX5) (N := 14) hx hb hts iX5_readStatement_5 hown hN.1 hB.1 0 rfl rfl 10 (by decide) (hts _ mX5_readStatement_6) (fun _ h9 => h9) rfl dX5_readStatement_122 ?_
                  have hT : WT B0 D cs T κ _ := hT.close hB trivial
                  have hF : Fr B0 [10, 11] κ H0 _ := hF.close hB fa_n
                  have hL : OkL B0 _ := hB.2.2.2.2.2
                  have hP : va_P D vwCl [(w, .inr (5, [.ref f2119_0, .int (nI ((κ w).2.2.1)), .int (nI f2119_2), .int (nI f2119_3), .int f2119_4, .int (nI f2119_5), .int f2119_6, .int f2119_7, .int f2119_8, .ref f2119_9, .int (nI f2119_10), .ref (κ w).2.2.2, .int f2119_12, .int f2119_13])), ((κ w).2.2.2, .inr (6, [.int (nI f2110_0), .int f2110_1, .int f2110_2, .null, .ref f2110_4, .ref f2110_5, .ref f2110_6, .ref f2110_7])), (q2120, .inr (0, [.null, .null]))] _ := hB.1
                  refine ci_v (As := [.ref f2119_9, .int (nI f2119_10)]) (rest := [.ref q2120, .ref (κ w).2.2.2]) (b := q2120) ⟨hx, hb, hml, hown, hts⟩ (c_X0_init hT (w := q2120) hfq2120 hbq2120 (hP 2 _ rfl) (v := f2119_9) t2119_9 (n := f2119_10) (by first | omega | decide | assumption)) (cwI 2 hts gX5_readStatement_X0_init rfl rfl rfl (hts _ mX5_readStatement_4) (hts _ mX5_readStatement_156) (hts _ mX5_readStatement_157) rfl hdX0_init_o ⟨Nat.le_of_ble_eq_true rfl, Nat.le_of_ble_eq_true rfl⟩) hN hE hL rfl rfl hl.1 (Nat.le_of_ble_eq_true rfl) dX5_readStatement_125 (show 1 + 2 ≤ 3 by omega) (show (0 + 2) + 616 ≤ 618 by omega) (fun H1 locs hL hqr2121 => ?_)
                  obtain ⟨κr2121, hxr2121, hT1, hF1, hqr2121⟩ := hqr2121
                  have hF := hF.tr (hF1.mono (by simp))
                  have hT := hT1
                  have hKF : KF κ κr2121 := hxr2121.f
                  have hKX : KX κ κr2121 := hxr2121
                  have hw := (hxr2121.f.t2 hw (by decide))
                  have hsu := (hxr2121.f.t2 hsu (by decide))
                  have hq2120 := hqr2121
                  obtain ⟨hb2122, e2122, hat2122, hk2122⟩ := hT.o7 hsu.1
                  obtain ⟨f2122_0, f2122_1, f2122_2, f2122_3, f2122_4, f2122_5, f2122_6, f2122_7, rfl, c2122_0, c2122_3, c2122_mg, t2122_4, t2122_5, t2122_6, t2122_7⟩ := hk2122
                  rw [hsu.2] at t2122_4
                  rw [hsu.2] at t2122_5
                  rw [hsu.2] at t2122_6
                  rw [hsu.2] at t2122_7
                  have hP : va_P D vwCl [((κ w).2.2.2, .inr (6, [.int (nI f2122_0), .int f2122_1, .int f2122_2, f2122_3, .ref f2122_4, .ref f2122_5, .ref f2122_6, .ref f2122_7]))] _ := va_P.cons hat2122 va_P.nil
                  have hB : Bx B0 D _ [((κ w).2.2.2, .inr (6, [.int (nI f2122_0), .int f2122_1, .int f2122_2, f2122_3, .ref f2122_4, .ref f2122_5, .ref f2122_6, .ref f2122_7]))] [] _ _ := Bx.of (fun a => (κr2121 a).1) hL hP (fa_c hb2122 fa_n) (by simp only [List.map_cons, List.map_nil, hsu.1]; decide)
                  refine b_putN (D := D) (ci := 6) (v := .ref q2120) (ty := .object "OneBeat$Formula") (C := RX6) (T := TX6) (N := 8) hx hb hts iX5_readStatement_6 tyX6 tyX6_ok nmX6 hown hN hB 0 rfl rfl 3 (by decide) (hN.f 44 rfl) (fun _ h9 => h9) rfl (by decide +kernel) rfl rfl (Nat.le_of_ble_eq_true rfl) (.inl rfl) dX5_readStatement_128 (fun H locs hB => ?_)
                  have hB : Bx B0 D _ [((κ w).2.2.2, .inr (6, [.int (nI f2122_0), .int f2122_1, .int f2122_2, .ref q2120, .ref f2122_4, .ref f2122_5, .ref f2122_6, .ref f2122_7]))] [(κ w).2.2.2] _ _ := hB
                  refine lv_iconst (v := 1) hx hb dX5_readStatement_131 (by decide) ?_
                  have hF : Fr B0 [10, 11] κ H0 _ := hF.closeN hB (fa_c (fun h9 => by rw [← (hKF _ h9).2, hsu.2]; simp) fa_n)
                  have hT : WT B0 D cs T (kp κr2121 (κ w).2.2.2 1 0) _ := hT.closeK (κ w).2.2.2 1 0 hB (by rw [hsu.1]; decide) (by rw [hsu.1]; decide) (List.mem_of_getElem? (i := 0) rfl) ⟨⟨0, _, rfl, kp_ok (ok_7 (k := ((κr2121 (κ w).2.2.2).1, (κr2121 (κ w).2.2.2).2.1, _, _)) hsu.1 ⟨_, _, _, _, _, _, _, _, rfl, (by omega), (Or.inr ⟨_, rfl, (t2kp hq2120)⟩), (Or.inr ⟨_, rfl⟩), ⟨(t2kp t2122_4).1, by rw [hsu.2]; exact (t2kp t2122_4).2⟩, ⟨(t2kp t2122_5).1, by rw [hsu.2]; exact (t2kp t2122_5).2⟩, ⟨(t2kp t2122_6).1, by rw [hsu.2]; exact (t2kp t2122_6).2⟩, ⟨(t2kp t2122_7).1, by rw [hsu.2]; exact (t2kp t2122_7).2⟩⟩)⟩, trivial⟩
                  have hL : OkL B0 _ := hB.2.2.2.2.2
                  have hsu := t2kp (x := 1) (y := 0) (a := (κ w).2.2.2) hsu
                  refine W.know (fun hg => ?_)
                  rw [hH0] at hg
                  exact en_i hx hb hr hlocks hL rfl (show 3 ≤ 3 by omega) (show ((0 + 2) + 616) ≤ 618 by omega) dX5_readStatement_132 (⟨_, (fun a h1 h2 => (kp_n h2).trans (hKX a h1)), hT, hF, hsu, Or.inr ⟨hmg1, by rw [kp_a], hg.mono (by omega) (by omega)⟩, Or.inr rfl⟩)
              · refine va_getN (D := D) (ci := 6) (v := .ref a2115) (C := RX6) (T := TX6) (N := 8) hx hb hts iX5_readStatement_6 hown hN.1 hP 0 rfl rfl 3 (by decide) (hN.f 44 rfl) (fun _ h9 => h9) rfl dX5_readStatement_89 ?_
                refine lv_ifnonnull (tgt := 133) hx hb dX5_readStatement_92 (by decide) ?_
                refine lv_aload_n hx hb dX5_readStatement_133 rfl (lv_at hl 0 rfl) ?_
                refine lv_bipush (v := (-2)) hx hb dX5_readStatement_134 (by decide) ?_
                refine lv_aload_n hx hb dX5_readStatement_136 rfl (lv_at hl 0 rfl) ?_
                refine va_get (D := D) (ci := 5) (v := .int (nI f2109_5)) (C := RX5) (T := TX5) (N := 14) hx hb hts iX5_readStatement_5 hown hN.1 hP 1 rfl rfl 5 (by decide) (hts _ mX5_readStatement_7) (fun _ h9 => h9) rfl dX5_readStatement_137 ?_
                refine cv_i (As := [.int (-2), .int (nI f2109_5)]) (rest := []) (b := w) ⟨hx, hb, hml, hown, hts⟩ (c_X5_fail hT (w := w) hw (x := (-2)) (y := (nI f2109_5))) (cwV 2 hts gX5_readStatement_X5_fail rfl rfl rfl hdX5_fail_v ⟨Nat.le_of_ble_eq_true rfl, Nat.le_of_ble_eq_true rfl⟩) hN hE hL (rcv6 hN hT hw.1) rfl rfl hl.1 (Nat.le_of_ble_eq_true rfl) dX5_readStatement_140 (Nat.zero_le _) (Nat.zero_le _) (fun r2123 H1 locs hL hqr2123 => ?_)
                obtain ⟨hT1, hF1, hqr2123⟩ := hqr2123
                have hP : va_P D vwCl [((κ w).2.2.2, .inr (6, [.int (nI f2110_0), .int f2110_1, .int f2110_2, .ref a2115, .ref f2110_4, .ref f2110_5, .ref f2110_6, .ref f2110_7]))] _ := hF1.hP (hP.sub [0] rfl) (fa_c ⟨by rw [hsu.1]; decide, by rw [hsu.2]; first | decide | (simp; done) | (simp; omega)⟩ fa_n)
                have hF := hF.tr (hF1.mono (by simp))
                have hT := hT1
                obtain rfl := hqr2123
                refine W.know (fun hg => ?_)
                rw [hH0] at hg
                exact en_i hx hb hr hlocks hL rfl (Nat.zero_le _) (Nat.zero_le _) dX5_readStatement_143 (⟨_, (fun _ _ _ => rfl), hT, hF, hsu, Or.inl ⟨rfl, hg⟩, Or.inl rfl⟩)
          · refine lv_if_eq (tgt := 76) hx hb dX5_readStatement_58 (by decide) (fun c9 => absurd c9 (by decide)) (fun _ => ?_)
            refine lv_aload_n hx hb dX5_readStatement_61 rfl (lv_at hl 0 rfl) ?_
            refine va_get (D := D) (ci := 5) (v := .ref (κ w).2.2.2) (C := RX5) (T := TX5) (N := 14) hx hb hts iX5_readStatement_5 hown hN.1 hP 1 rfl rfl 11 (by decide) (hts _ mX5_readStatement_1) (fun _ h9 => h9) rfl dX5_readStatement_62 ?_
            refine va_getN (D := D) (ci := 6) (v := .int f2110_2) (C := RX6) (T := TX6) (N := 8) hx hb hts iX5_readStatement_6 hown hN.1 hP 0 rfl rfl 2 (by decide) (hN.f 42 rfl) (fun _ h9 => h9) rfl dX5_readStatement_65 ?_
            refine lv_if_ne (tgt := 76) hx hb dX5_readStatement_68 (by decide) (fun c2124 => ?_) (fun c2124 => ?_)
            · refine lv_aload_n hx hb dX5_readStatement_76 rfl (lv_at hl 0 rfl) ?_
              refine va_ldcS hx hb hown (hN.s 6 rfl) dX5_readStatement_77 ?_
              refine cv_i (As := [.ref (cs 106)]) (rest := []) (b := w) ⟨hx, hb, hml, hown, hts⟩ (c_X5_isWord hT (w := w) hw (i := 6) (by decide)) (cwV 1 hts gX5_readStatement_X5_isWord rfl rfl rfl hdX5_isWord_v ⟨Nat.le_of_ble_eq_true rfl, Nat.le_of_ble_eq_true rfl⟩) hN hE hL (rcv6 hN hT hw.1) rfl rfl hl.1 (Nat.le_of_ble_eq_true rfl) dX5_readStatement_79 (Nat.zero_le _) (Nat.zero_le _) (fun r2125 H1 locs hL hqr2125 => ?_)
              obtain ⟨h9, hqr2125⟩ := hqr2125; replace h9 := h9.symm; subst h9
              rcases hqr2125 with rfl | rfl
              · refine lv_if_eq (tgt := 133) hx hb dX5_readStatement_82 (by decide) (fun _ => ?_) (fun c9 => absurd (by decide) c9)
                refine lv_aload_n hx hb dX5_readStatement_133 rfl (lv_at hl 0 rfl) ?_
                refine lv_bipush (v := (-2)) hx hb dX5_readStatement_134 (by decide) ?_
                refine lv_aload_n hx hb dX5_readStatement_136 rfl (lv_at hl 0 rfl) ?_
                refine va_get (D := D) (ci := 5) (v := .int (nI f2109_5)) (C := RX5) (T := TX5) (N := 14) hx hb hts iX5_readStatement_5 hown hN.1 hP 1 rfl rfl 5 (by decide) (hts _ mX5_readStatement_7) (fun _ h9 => h9) rfl dX5_readStatement_137 ?_
                refine cv_i (As := [.int (-2), .int (nI f2109_5)]) (rest := []) (b := w) ⟨hx, hb, hml, hown, hts⟩ (c_X5_fail hT (w := w) hw (x := (-2)) (y := (nI f2109_5))) (cwV 2 hts gX5_readStatement_X5_fail rfl rfl rfl hdX5_fail_v ⟨Nat.le_of_ble_eq_true rfl, Nat.le_of_ble_eq_true rfl⟩) hN hE hL (rcv6 hN hT hw.1) rfl rfl hl.1 (Nat.le_of_ble_eq_true rfl) dX5_readStatement_140 (Nat.zero_le _) (Nat.zero_le _) (fun r2126 H1 locs hL hqr2126 => ?_)
                obtain ⟨hT1, hF1, hqr2126⟩ := hqr2126
                have hP : va_P D vwCl [((κ w).2.2.2, .inr (6, [.int (nI f2110_0), .int f2110_1, .int f2110_2, f2110_3, .ref f2110_4, .ref f2110_5, .ref f2110_6, .ref f2110_7]))] _ := hF1.hP (hP.sub [0] rfl) (fa_c ⟨by rw [hsu.1]; decide, by rw [hsu.2]; first | decide | (simp; done) | (simp; omega)⟩ fa_n)
                have hF := hF.tr (hF1.mono (by simp))
                have hT := hT1
                obtain rfl := hqr2126
                refine W.know (fun hg => ?_)
                rw [hH0] at hg
                exact en_i hx hb hr hlocks hL rfl (Nat.zero_le _) (Nat.zero_le _) dX5_readStatement_143 (⟨_, (fun _ _ _ => rfl), hT, hF, hsu, Or.inl ⟨rfl, hg⟩, Or.inl rfl⟩)
              · refine lv_if_eq (tgt := 133) hx hb dX5_readStatement_82 (by decide) (fun c9 => absurd c9 (by decide)) (fun _ => ?_)
                refine lv_aload_n hx hb dX5_readStatement_85 rfl (lv_at hl 0 rfl) ?_
                refine va_get (D := D) (ci := 5) (v := .ref (κ w).2.2.2) (C := RX5) (T := TX5) (N := 14) hx hb hts iX5_readStatement_5 hown hN.1 hP 1 rfl rfl 11 (by decide) (hts _ mX5_readStatement_1) (fun _ h9 => h9) rfl dX5_readStatement_86 ?_
                rcases c2110_3 with rfl | ⟨a2127, rfl, ta2127⟩
                · refine va_getN (D := D) (ci := 6) (v := .null) (C := RX6) (T := TX6) (N := 8) hx hb hts iX5_readStatement_6 hown hN.1 hP 0 rfl rfl 3 (by decide) (hN.f 44 rfl) (fun _ h9 => h9) rfl dX5_readStatement_89 ?_
                  refine lv_ifnonnullN hx hb dX5_readStatement_92 ?_
                  have hmg1 : (κ (κ w).2.2.2).2.2.1 ≠ 1 := (c2110_mg).resolve_right (by rintro ⟨_, h9⟩; cases h9)
                  refine lv_aload_n hx hb dX5_readStatement_95 rfl (lv_at hl 0 rfl) ?_
                  refine cv_v (As := []) (rest := []) (b := w) ⟨hx, hb, hml, hown, hts⟩ (c_X5_step hT (w := w) hw) (cwV 0 hts gX5_readStatement_X5_step rfl rfl rfl hdX5_step_v ⟨Nat.le_of_ble_eq_true rfl, Nat.le_of_ble_eq_true rfl⟩) hN hE hL (rcv6 hN hT hw.1) rfl rfl hl.1 (Nat.le_of_ble_eq_true rfl) dX5_readStatement_96 (Nat.zero_le _) (Nat.zero_le _) (fun H1 locs hL hqr2128 => ?_)
                  obtain ⟨hT1, hF1, hqr2128⟩ := hqr2128
                  have hP : va_P D vwCl [((κ w).2.2.2, .inr (6, [.int (nI f2110_0), .int f2110_1, .int f2110_2, .null, .ref f2110_4, .ref f2110_5, .ref f2110_6, .ref f2110_7]))] _ := hF1.hP (hP.sub [0] rfl) (fa_c ⟨by rw [hsu.1]; decide, by rw [hsu.2]; first | decide | (simp; done) | (simp; omega)⟩ fa_n)
                  have hF := hF.tr (hF1.mono (by simp))
                  have hT := hT1
                  have f2129 := hqr2128
                  refine lv_aload_n hx hb dX5_readStatement_99 rfl (lv_at hl 0 rfl) ?_
                  refine lv_iconst (v := 0) hx hb dX5_readStatement_100 (by decide) ?_
                  refine cv_i (As := [.int 0]) (rest := []) (b := w) ⟨hx, hb, hml, hown, hts⟩ (c_X5_readSum_d0 hT (w := w) hw) (cwV 1 hts gX5_readStatement_X5_readSum rfl rfl rfl hdX5_readSum_v ⟨Nat.le_of_ble_eq_true rfl, Nat.le_of_ble_eq_true rfl⟩) hN hE hL (rcv6 hN hT hw.1) rfl rfl hl.1 (Nat.le_of_ble_eq_true rfl) dX5_readStatement_101 (Nat.zero_le _) (Nat.zero_le _) (fun r2130 H1 locs hL hqr2130 => ?_)
                  obtain ⟨hT1, hF1, hqr2130⟩ := hqr2130
                  have hP : va_P D vwCl [((κ w).2.2.2, .inr (6, [.int (nI f2110_0), .int f2110_1, .int f2110_2, .null, .ref f2110_4, .ref f2110_5, .ref f2110_6, .ref f2110_7]))] _ := hF1.hP (hP.sub [0] rfl) (fa_c ⟨by rw [hsu.1]; decide, by rw [hsu.2]; first | decide | (simp; done) | (simp; omega)⟩ fa_n)
                  have hF := hF.tr (hF1.mono (by simp))
                  have hT := hT1
                  rcases hqr2130 with rfl | rfl
                  · refine lv_if_ne (tgt := 109) hx hb dX5_readStatement_104 (by decide) (fun c9 => absurd (by decide) c9) (fun _ => ?_)
                    refine lv_iconst (v := 0) hx hb dX5_readStatement_107 (by decide) ?_
                    refine W.know (fun hg => ?_)
                    rw [hH0] at hg
                    exact en_i hx hb hr hlocks hL rfl (Nat.zero_le _) (Nat.zero_le _) dX5_readStatement_108 (⟨_, (fun _ _ _ => rfl), hT, hF, hsu, Or.inl ⟨rfl, hg⟩, Or.inl rfl⟩)
                  · refine lv_if_ne (tgt := 109) hx hb dX5_readStatement_104 (by decide) (fun _ => ?_) (fun c9 => absurd c9 (by decide))
                    refine lv_aload_n hx hb dX5_readStatement_109 rfl (lv_at hl 0 rfl) ?_
                    obtain ⟨hb2131, e2131, hat2131, hk2131⟩ := hT.o6 hw.1
                    obtain ⟨f2131_0, f2131_2, f2131_3, f2131_4, f2131_5, f2131_6, f2131_7, f2131_8, f2131_9, f2131_10, f2131_11, f2131_12, f2131_13, rfl, c2131_1, c2131_2, c2131_3, c2131_5, c2131_10, t2131_0, t2131_9, c2131_11, c2131_p2⟩ := hk2131
                    obtain rfl : f2131_11 = .ref (κ w).2.2.2 := c2131_p2.resolve_left hs0
                    have hP : va_P D vwCl [(w, .inr (5, [.ref f2131_0, .int (nI ((κ w).2.2.1)), .int (nI f2131_2), .int (nI f2131_3), .int f2131_4, .int (nI f2131_5), .int f2131_6, .int f2131_7, .int f2131_8, .ref f2131_9, .int (nI f2131_10), .ref (κ w).2.2.2, .int f2131_12, .int f2131_13])), ((κ w).2.2.2, .inr (6, [.int (nI f2110_0), .int f2110_1, .int f2110_2, .null, .ref f2110_4, .ref f2110_5, .ref f2110_6, .ref f2110_7]))] _ := va_P.cons hat2131 hP
                    refine va_get (D := D) (ci := 5) (v := .ref (κ w).2.2.2) (C := RX5) (T := TX5) (N := 14) hx hb hts iX5_readStatement_5 hown hN.1 hP 0 rfl rfl 11 (by decide) (hts _ mX5_readStatement_1) (fun _ h9 => h9) rfl dX5_readStatement_110 ?_
                    have hb0 : B0 ≤ _ := hT.b0 hw (by decide)
                    have hB : Bx B0 D _ [(w, .inr (5, [.ref f2131_0, .int (nI ((κ w).2.2.1)), .int (nI f2131_2), .int (nI f2131_3), .int f2131_4, .int (nI f2131_5), .int f2131_6, .int f2131_7, .int f2131_8, .ref f2131_9, .int (nI f2131_10), .ref (κ w).2.2.2, .int f2131_12, .int f2131_13])), ((κ w).2.2.2, .inr (6, [.int (nI f2110_0), .int f2110_1, .int f2110_2, .null, .ref f2110_4, .ref f2110_5, .ref f2110_6, .ref f2110_7]))] [] _ _ := Bx.of (fun a => (κ a).1) hL hP (fa_c hb2131 (fa_c hb2110 fa_n)) (by simp only [List.map_cons, List.map_nil, hw.1, hsu.1]; decide)
                    refine nw_o (ci := 0) (fs := [.null, .null]) (C := RX0) (T := TX0) (N := 2) hx hb hts iX5_readStatement_0 tyX0 tyX0_ok hown (hts _ mX5_readStatement_2) (hts _ mX5_readStatement_3) (hts _ mX5_readStatement_4) hN rfl dfl0 (show 0 + 1 ≤ 3 by omega) (show 0 + 2 ≤ 618 by omega) dX5_readStatement_113 (fun q2132 H heq2132 hzq2132 hoq2132 hatq2132 => ?_)
                    have hgeq2132 : _ ≤ q2132 := Nat.le_trans hB.2.2.1 (Nat.le_of_eq heq2132.symm)
                    have hbq2132 : B0 ≤ q2132 := Nat.le_trans hb0 hgeq2132
                    have hfq2132 : (κ q2132).1 = 0 := hT.fresh hgeq2132
                    have hB := hB.nw heq2132 hzq2132 hoq2132 hatq2132 hb0
                    have hB : Bx B0 D _ [(w, .inr (5, [.ref f2131_0, .int (nI ((κ w).2.2.1)), .int (nI f2131_2), .int (nI f2131_3), .int f2131_4, .int (nI f2131_5), .int f2131_6, .int f2131_7, .int f2131_8, .ref f2131_9, .int (nI f2131_10), .ref (κ w).2.2.2, .int f2131_12, .int f2131_13])), ((κ w).2.2.2, .inr (6, [.int (nI f2110_0), .int f2110_1, .int f2110_2, .null, .ref f2110_4, .ref f2110_5, .ref f2110_6, .ref f2110_7])), (q2132, .inr (0, [.null, .null]))] [] _ _ := hB
                    refine lv_dup hx hb dX5_readStatement_116 rfl ?_
                    refine lv_aload_n hx hb dX5_readStatement_117 rfl (lv_at hl 0 rfl) ?_
                    refine va_get (D := D) (ci := 5) (v := .ref f2131_9) (C := RX5) (T := TX5) (N := 14) hx hb hts iX5_readStatement_5 hown hN.1 hB.1 0 rfl rfl 9 (by decide) (hts _ mX5_readStatement_5) (fun _ h9 => h9) rfl dX5_readStatement_118 ?_
                    refine lv_aload_n hx hb dX5_readStatement_121 rfl (lv_at hl 0 rfl) ?_
                    refine va_get (D := D) (ci := 5) (v := .int (nI f2131_10)) (C := RX5) (T := TX5) (N := 14) hx hb hts iX5_readStatement_5 hown hN.1 hB.1 0 rfl rfl 10 (by decide) (hts _ mX5_readStatement_6) (fun _ h9 => h9) rfl dX5_readStatement_122 ?_
                    have hT : WT B0 D cs T κ _ := hT.close hB trivial
                    have hF : Fr B0 [10, 11] κ H0 _ := hF.close hB fa_n
                    have hL : OkL B0 _ := hB.2.2.2.2.2
                    have hP : va_P D vwCl [(w, .inr (5, [.ref f2131_0, .int (nI ((κ w).2.2.1)), .int (nI f2131_2), .int (nI f2131_3), .int f2131_4, .int (nI f2131_5), .int f2131_6, .int f2131_7, .int f2131_8, .ref f2131_9, .int (nI f2131_10), .ref (κ w).2.2.2, .int f2131_12, .int f2131_13])), ((κ w).2.2.2, .inr (6, [.int (nI f2110_0), .int f2110_1, .int f2110_2, .null, .ref f2110_4, .ref f2110_5, .ref f2110_6, .ref f2110_7])), (q2132, .inr (0, [.null, .null]))] _ := hB.1
                    refine ci_v (As := [.ref f2131_9, .int (nI f2131_10)]) (rest := [.ref q2132, .ref (κ w).2.2.2]) (b := q2132) ⟨hx, hb, hml, hown, hts⟩ (c_X0_init hT (w := q2132) hfq2132 hbq2132 (hP 2 _ rfl) (v := f2131_9) t2131_9 (n := f2131_10) (by first | omega | decide | assumption)) (cwI 2 hts gX5_readStatement_X0_init rfl rfl rfl (hts _ mX5_readStatement_4) (hts _ mX5_readStatement_156) (hts _ mX5_readStatement_157) rfl hdX0_init_o ⟨Nat.le_of_ble_eq_true rfl, Nat.le_of_ble_eq_true rfl⟩) hN hE hL rfl rfl hl.1 (Nat.le_of_ble_eq_true rfl) dX5_readStatement_125 (show 1 + 2 ≤ 3 by omega) (show (0 + 2) + 616 ≤ 618 by omega) (fun H1 locs hL hqr2133 => ?_)
                    obtain ⟨κr2133, hxr2133, hT1, hF1, hqr2133⟩ := hqr2133
                    have hF := hF.tr (hF1.mono (by simp))
                    have hT := hT1
                    have hKF : KF κ κr2133 := hxr2133.f
                    have hKX : KX κ κr2133 := hxr2133
                    have hw := (hxr2133.f.t2 hw (by decide))
                    have hsu := (hxr2133.f.t2 hsu (by decide))
                    have hq2132 := hqr2133
                    obtain ⟨hb2134, e2134, hat2134, hk2134⟩ := hT.o7 hsu.1
                    obtain ⟨f2134_0, f2134_1, f2134_2, f2134_3, f2134_4, f2134_5, f2134_6, f2134_7, rfl, c2134_0, c2134_3, c2134_mg, t2134_4, t2134_5, t2134_6, t2134_7⟩ := hk2134
                    rw [hsu.2] at t2134_4
                    rw [hsu.2] at t2134_5
                    rw [hsu.2] at t2134_6
                    rw [hsu.2] at t2134_7
                    have hP : va_P D vwCl [((κ w).2.2.2, .inr (6, [.int (nI f2134_0), .int f2134_1, .int f2134_2, f2134_3, .ref f2134_4, .ref f2134_5, .ref f2134_6, .ref f2134_7]))] _ := va_P.cons hat2134 va_P.nil
                    have hB : Bx B0 D _ [((κ w).2.2.2, .inr (6, [.int (nI f2134_0), .int f2134_1, .int f2134_2, f2134_3, .ref f2134_4, .ref f2134_5, .ref f2134_6, .ref f2134_7]))] [] _ _ := Bx.of (fun a => (κr2133 a).1) hL hP (fa_c hb2134 fa_n) (by simp only [List.map_cons, List.map_nil, hsu.1]; decide)
                    refine b_putN (D := D) (ci := 6) (v := .ref q2132) (ty := .object "OneBeat$Formula") (C := RX6) (T := TX6) (N := 8) hx hb hts iX5_readStatement_6 tyX6 tyX6_ok nmX6 hown hN hB 0 rfl rfl 3 (by decide) (hN.f 44 rfl) (fun _ h9 => h9) rfl (by decide +kernel) rfl rfl (Nat.le_of_ble_eq_true rfl) (.inl rfl) dX5_readStatement_128 (fun H locs hB => ?_)
                    have hB : Bx B0 D _ [((κ w).2.2.2, .inr (6, [.int (nI f2134_0), .int f2134_1, .int f2134_2, .ref q2132, .ref f2134_4, .ref f2134_5, .ref f2134_6, .ref f2134_7]))] [(κ w).2.2.2] _ _ := hB
                    refine lv_iconst (v := 1) hx hb dX5_readStatement_131 (by decide) ?_
                    have hF : Fr B0 [10, 11] κ H0 _ := hF.closeN hB (fa_c (fun h9 => by rw [← (hKF _ h9).2, hsu.2]; simp) fa_n)
                    have hT : WT B0 D cs T (kp κr2133 (κ w).2.2.2 1 0) _ := hT.closeK (κ w).2.2.2 1 0 hB (by rw [hsu.1]; decide) (by rw [hsu.1]; decide) (List.mem_of_getElem? (i := 0) rfl) ⟨⟨0, _, rfl, kp_ok (ok_7 (k := ((κr2133 (κ w).2.2.2).1, (κr2133 (κ w).2.2.2).2.1, _, _)) hsu.1 ⟨_, _, _, _, _, _, _, _, rfl, (by omega), (Or.inr ⟨_, rfl, (t2kp hq2132)⟩), (Or.inr ⟨_, rfl⟩), ⟨(t2kp t2134_4).1, by rw [hsu.2]; exact (t2kp t2134_4).2⟩, ⟨(t2kp t2134_5).1, by rw [hsu.2]; exact (t2kp t2134_5).2⟩, ⟨(t2kp t2134_6).1, by rw [hsu.2]; exact (t2kp t2134_6).2⟩, ⟨(t2kp t2134_7).1, by rw [hsu.2]; exact (t2kp t2134_7).2⟩⟩)⟩, trivial⟩
                    have hL : OkL B0 _ := hB.2.2.2.2.2
                    have hsu := t2kp (x := 1) (y := 0) (a := (κ w).2.2.2) hsu
                    refine W.know (fun hg => ?_)
                    rw [hH0] at hg
                    exact en_i hx hb hr hlocks hL rfl (show 3 ≤ 3 by omega) (show ((0 + 2) + 616) ≤ 618 by omega) dX5_readStatement_132 (⟨_, (fun a h1 h2 => (kp_n h2).trans (hKX a h1)), hT, hF, hsu, Or.inr ⟨hmg1, by rw [kp_a], hg.mono (by omega) (by omega)⟩, Or.inr rfl⟩)
                · refine va_getN (D := D) (ci := 6) (v := .ref a2127) (C := RX6) (T := TX6) (N := 8) hx hb hts iX5_readStatement_6 hown hN.1 hP 0 rfl rfl 3 (by decide) (hN.f 44 rfl) (fun _ h9 => h9) rfl dX5_readStatement_89 ?_
                  refine lv_ifnonnull (tgt := 133) hx hb dX5_readStatement_92 (by decide) ?_
                  refine lv_aload_n hx hb dX5_readStatement_133 rfl (lv_at hl 0 rfl) ?_
                  refine lv_bipush (v := (-2)) hx hb dX5_readStatement_134 (by decide) ?_
                  refine lv_aload_n hx hb dX5_readStatement_136 rfl (lv_at hl 0 rfl) ?_
                  refine va_get (D := D) (ci := 5) (v := .int (nI f2109_5)) (C := RX5) (T := TX5) (N := 14) hx hb hts iX5_readStatement_5 hown hN.1 hP 1 rfl rfl 5 (by decide) (hts _ mX5_readStatement_7) (fun _ h9 => h9) rfl dX5_readStatement_137 ?_
                  refine cv_i (As := [.int (-2), .int (nI f2109_5)]) (rest := []) (b := w) ⟨hx, hb, hml, hown, hts⟩ (c_X5_fail hT (w := w) hw (x := (-2)) (y := (nI f2109_5))) (cwV 2 hts gX5_readStatement_X5_fail rfl rfl rfl hdX5_fail_v ⟨Nat.le_of_ble_eq_true rfl, Nat.le_of_ble_eq_true rfl⟩) hN hE hL (rcv6 hN hT hw.1) rfl rfl hl.1 (Nat.le_of_ble_eq_true rfl) dX5_readStatement_140 (Nat.zero_le _) (Nat.zero_le _) (fun r2135 H1 locs hL hqr2135 => ?_)
                  obtain ⟨hT1, hF1, hqr2135⟩ := hqr2135
                  have hP : va_P D vwCl [((κ w).2.2.2, .inr (6, [.int (nI f2110_0), .int f2110_1, .int f2110_2, .ref a2127, .ref f2110_4, .ref f2110_5, .ref f2110_6, .ref f2110_7]))] _ := hF1.hP (hP.sub [0] rfl) (fa_c ⟨by rw [hsu.1]; decide, by rw [hsu.2]; first | decide | (simp; done) | (simp; omega)⟩ fa_n)
                  have hF := hF.tr (hF1.mono (by simp))
                  have hT := hT1
                  obtain rfl := hqr2135
                  refine W.know (fun hg => ?_)
                  rw [hH0] at hg
                  exact en_i hx hb hr hlocks hL rfl (Nat.zero_le _) (Nat.zero_le _) dX5_readStatement_143 (⟨_, (fun _ _ _ => rfl), hT, hF, hsu, Or.inl ⟨rfl, hg⟩, Or.inl rfl⟩)
            · refine lv_aload_n hx hb dX5_readStatement_71 rfl (lv_at hl 0 rfl) ?_
              refine cv_i (As := []) (rest := []) (b := w) ⟨hx, hb, hml, hown, hts⟩ (c_X5_readPatience hT (w := w) hw (by first | omega | decide | assumption) (by first | omega | decide | assumption)) (cwV 0 hts gX5_readStatement_X5_readPatience rfl rfl rfl hdX5_readPatience_v ⟨Nat.le_of_ble_eq_true rfl, Nat.le_of_ble_eq_true rfl⟩) hN hE hL (rcv6 hN hT hw.1) rfl rfl hl.1 (Nat.le_of_ble_eq_true rfl) dX5_readStatement_72 (Nat.zero_le _) (Nat.zero_le _) (fun r2136 H1 locs hL hqr2136 => ?_)
              obtain ⟨hT1, hF1, hqr2136⟩ := hqr2136
              have hF := hF.tr (hF1.mono (by simp))
              have hT := hT1
              rcases hqr2136 with rfl | rfl
              · refine W.know (fun hg => ?_)
                rw [hH0] at hg
                exact en_i hx hb hr hlocks hL rfl (Nat.zero_le _) (Nat.zero_le _) dX5_readStatement_75 (⟨_, (fun _ _ _ => rfl), hT, hF, hsu, Or.inl ⟨rfl, hg⟩, Or.inl rfl⟩)
              · refine W.know (fun hg => ?_)
                rw [hH0] at hg
                exact en_i hx hb hr hlocks hL rfl (Nat.zero_le _) (Nat.zero_le _) dX5_readStatement_75 (⟨_, (fun _ _ _ => rfl), hT, hF, hsu, Or.inl ⟨rfl, hg⟩, Or.inr rfl⟩)
        · refine lv_aload_n hx hb dX5_readStatement_47 rfl (lv_at hl 0 rfl) ?_
          refine cv_i (As := []) (rest := []) (b := w) ⟨hx, hb, hml, hown, hts⟩ (c_X5_readNeed hT (w := w) hw (by first | omega | decide | assumption) (by first | omega | decide | assumption)) (cwV 0 hts gX5_readStatement_X5_readNeed rfl rfl rfl hdX5_readNeed_v ⟨Nat.le_of_ble_eq_true rfl, Nat.le_of_ble_eq_true rfl⟩) hN hE hL (rcv6 hN hT hw.1) rfl rfl hl.1 (Nat.le_of_ble_eq_true rfl) dX5_readStatement_48 (Nat.zero_le _) (Nat.zero_le _) (fun r2137 H1 locs hL hqr2137 => ?_)
          obtain ⟨hT1, hF1, hqr2137⟩ := hqr2137
          have hF := hF.tr (hF1.mono (by simp))
          have hT := hT1
          rcases hqr2137 with rfl | rfl
          · refine W.know (fun hg => ?_)
            rw [hH0] at hg
            exact en_i hx hb hr hlocks hL rfl (Nat.zero_le _) (Nat.zero_le _) dX5_readStatement_51 (⟨_, (fun _ _ _ => rfl), hT, hF, hsu, Or.inl ⟨rfl, hg⟩, Or.inl rfl⟩)
          · refine W.know (fun hg => ?_)
            rw [hH0] at hg
            exact en_i hx hb hr hlocks hL rfl (Nat.zero_le _) (Nat.zero_le _) dX5_readStatement_51 (⟨_, (fun _ _ _ => rfl), hT, hF, hsu, Or.inl ⟨rfl, hg⟩, Or.inr rfl⟩)
    · refine lv_if_eq (tgt := 28) hx hb dX5_readStatement_20 (by decide) (fun c9 => absurd c9 (by decide)) (fun _ => ?_)
      refine lv_aload_n hx hb dX5_readStatement_23 rfl (lv_at hl 0 rfl) ?_
      refine cv_i (As := []) (rest := []) (b := w) ⟨hx, hb, hml, hown, hts⟩ (c_X5_readLink hT (w := w) hw (by first | omega | decide | assumption) (by first | omega | decide | assumption)) (cwV 0 hts gX5_readStatement_X5_readLink rfl rfl rfl hdX5_readLink_v ⟨Nat.le_of_ble_eq_true rfl, Nat.le_of_ble_eq_true rfl⟩) hN hE hL (rcv6 hN hT hw.1) rfl rfl hl.1 (Nat.le_of_ble_eq_true rfl) dX5_readStatement_24 (Nat.zero_le _) (Nat.zero_le _) (fun r2138 H1 locs hL hqr2138 => ?_)
      obtain ⟨hT1, hF1, hqr2138⟩ := hqr2138
      have hF := hF.tr (hF1.mono (by simp))
      have hT := hT1
      rcases hqr2138 with rfl | rfl
      · refine W.know (fun hg => ?_)
        rw [hH0] at hg
        exact en_i hx hb hr hlocks hL rfl (Nat.zero_le _) (Nat.zero_le _) dX5_readStatement_27 (⟨_, (fun _ _ _ => rfl), hT, hF, hsu, Or.inl ⟨rfl, hg⟩, Or.inl rfl⟩)
      · refine W.know (fun hg => ?_)
        rw [hH0] at hg
        exact en_i hx hb hr hlocks hL rfl (Nat.zero_le _) (Nat.zero_le _) dX5_readStatement_27 (⟨_, (fun _ _ _ => rfl), hT, hF, hsu, Or.inl ⟨rfl, hg⟩, Or.inr rfl⟩)
  · refine lv_if_eq (tgt := 14) hx hb dX5_readStatement_6 (by decide) (fun c9 => absurd c9 (by decide)) (fun _ => ?_)
    refine lv_aload_n hx hb dX5_readStatement_9 rfl (lv_at hl 0 rfl) ?_
    refine cv_i (As := []) (rest := []) (b := w) ⟨hx, hb, hml, hown, hts⟩ (c_X5_readClock hT (w := w) hw (by first | omega | decide | assumption) (by first | omega | decide | assumption)) (cwV 0 hts gX5_readStatement_X5_readClock rfl rfl rfl hdX5_readClock_v ⟨Nat.le_of_ble_eq_true rfl, Nat.le_of_ble_eq_true rfl⟩) hN hE hL (rcv6 hN hT hw.1) rfl rfl hl.1 (Nat.le_of_ble_eq_true rfl) dX5_readStatement_10 (Nat.zero_le _) (Nat.zero_le _) (fun r2139 H1 locs hL hqr2139 => ?_)
    obtain ⟨hT1, hF1, hqr2139⟩ := hqr2139
    have hF := hF.tr (hF1.mono (by simp))
    have hT := hT1
    rcases hqr2139 with rfl | rfl
    · refine W.know (fun hg => ?_)
      rw [hH0] at hg
      exact en_i hx hb hr hlocks hL rfl (Nat.zero_le _) (Nat.zero_le _) dX5_readStatement_13 (⟨_, (fun _ _ _ => rfl), hT, hF, hsu, Or.inl ⟨rfl, hg⟩, Or.inl rfl⟩)
    · refine W.know (fun hg => ?_)
      rw [hH0] at hg
      exact en_i hx hb hr hlocks hL rfl (Nat.zero_le _) (Nat.zero_le _) dX5_readStatement_13 (⟨_, (fun _ _ _ => rfl), hT, hF, hsu, Or.inl ⟨rfl, hg⟩, Or.inr rfl⟩)
theorem mX5_read_1 : (.fieldLink RX5 11 "OneBeat$Reader" "text" "[B" : Cond) ∈ wsX5_read := List.mem_of_getElem? (i := 1) (by decide +kernel)
theorem iX5_read_5 : ∀ w ∈ wsX50, w ∈ wsX5_read := fun w h => List.mem_of_mem_drop (List.mem_of_mem_take ((show wsX50 = (wsX5_read.drop 210).take 14 by decide +kernel) ▸ h))
theorem mX5_read_2 : (.methodLink RX5 23 Lib.Math.min.name : Cond) ∈ wsX5_read := List.mem_of_getElem? (i := 2) (by decide +kernel)
theorem mX5_read_3 : (.static Lib.Math.min.name : Cond) ∈ wsX5_read := List.mem_of_getElem? (i := 3) (by decide +kernel)
theorem mX5_read_4 : (.initialized "java/lang/Math" : Cond) ∈ wsX5_read := List.mem_of_getElem? (i := 4) (by decide +kernel)
theorem mX5_read_5 : (.code Lib.Math.min.name Lib.Math.min.code 2 (some .int) : Cond) ∈ wsX5_read := List.mem_of_getElem? (i := 5) (by decide +kernel)
theorem mX5_read_6 : (.methodLink RX5 29 Lib.Math.max.name : Cond) ∈ wsX5_read := List.mem_of_getElem? (i := 6) (by decide +kernel)
theorem mX5_read_7 : (.static Lib.Math.max.name : Cond) ∈ wsX5_read := List.mem_of_getElem? (i := 7) (by decide +kernel)
theorem mX5_read_8 : (.code Lib.Math.max.name Lib.Math.max.code 2 (some .int) : Cond) ∈ wsX5_read := List.mem_of_getElem? (i := 8) (by decide +kernel)
theorem mX5_read_9 : (.fieldLink RX5 32 "OneBeat$Reader" "length" "I" : Cond) ∈ wsX5_read := List.mem_of_getElem? (i := 9) (by decide +kernel)
theorem mX5_read_10 : (.fieldLink RX5 19 "OneBeat$Reader" "stored" "I" : Cond) ∈ wsX5_read := List.mem_of_getElem? (i := 10) (by decide +kernel)
theorem mX5_read_11 : (.fieldLink RX5 35 "OneBeat$Reader" "position" "I" : Cond) ∈ wsX5_read := List.mem_of_getElem? (i := 11) (by decide +kernel)
theorem mX5_read_12 : (.fieldLink RX5 38 "OneBeat$Reader" "codeCount" "I" : Cond) ∈ wsX5_read := List.mem_of_getElem? (i := 12) (by decide +kernel)
theorem mX5_read_13 : (.fieldLink RX5 41 "OneBeat$Reader" "errorStart" "I" : Cond) ∈ wsX5_read := List.mem_of_getElem? (i := 13) (by decide +kernel)
theorem hdX5_takeWord_v : yX5_takeWord.cls = RX5 ∧ yX5_takeWord.cls ≠ "java/lang/invoke/MethodHandle" ∧ yX5_takeWord.cls ≠ "java/lang/invoke/VarHandle" ∧ (parseMethodDescriptor yX5_takeWord.desc).map (fun d => d.parameters.length) = some 1 := by decide +kernel
theorem iX5_read_6 : ∀ w ∈ wsX60, w ∈ wsX5_read := fun w h => List.mem_of_mem_drop (List.mem_of_mem_take ((show wsX60 = (wsX5_read.drop 224).take 8 by decide +kernel) ▸ h))
theorem mX5_read_14 : (.classLink RX5 53 RX6 : Cond) ∈ wsX5_read := List.mem_of_getElem? (i := 14) (by decide +kernel)
theorem mX5_read_15 : (.instantiable RX6 8 : Cond) ∈ wsX5_read := List.mem_of_getElem? (i := 15) (by decide +kernel)
theorem mX5_read_16 : (.initialized RX6 : Cond) ∈ wsX5_read := List.mem_of_getElem? (i := 16) (by decide +kernel)
theorem dfl6 : ∀ j, j < 8 → defaultValue (tyX6 j) = vp_V [.int 0, .int 0, .int 0, .null, .null, .null, .null, .null] j := by decide +kernel
theorem mX5_read_17 : (.fieldLink RX5 59 "OneBeat$Reader" "taken" "I" : Cond) ∈ wsX5_read := List.mem_of_getElem? (i := 17) (by decide +kernel)
theorem mX5_read_96 : (.instanceMethod yX6_init : Cond) ∈ wsX5_read := List.mem_of_getElem? (i := 96) (by decide +kernel)
theorem mX5_read_95 : (.methodLink RX5 62 yX6_init : Cond) ∈ wsX5_read := List.mem_of_getElem? (i := 95) (by decide +kernel)
theorem hdX6_init_o : yX6_init.cls ≠ "java/lang/invoke/MethodHandle" ∧ yX6_init.cls ≠ "java/lang/invoke/VarHandle" ∧ (parseMethodDescriptor yX6_init.desc).map (fun d => d.parameters.length) = some 1 := by decide +kernel
theorem mX5_read_18 : (.fieldLink RX5 65 "OneBeat$Reader" "setup" "LOneBeat$Setup;" : Cond) ∈ wsX5_read := List.mem_of_getElem? (i := 18) (by decide +kernel)
theorem hdX6_fillIn_v : yX6_fillIn.cls = RX6 ∧ yX6_fillIn.cls ≠ "java/lang/invoke/MethodHandle" ∧ yX6_fillIn.cls ≠ "java/lang/invoke/VarHandle" ∧ (parseMethodDescriptor yX6_fillIn.desc).map (fun d => d.parameters.length) = some 0 := by decide +kernel
theorem mX5_read_19 : (.fieldLink RX5 73 "OneBeat$Reader" "kind" "I" : Cond) ∈ wsX5_read := List.mem_of_getElem? (i := 19) (by decide +kernel)
theorem hdX5_readStatement_v : yX5_readStatement.cls = RX5 ∧ yX5_readStatement.cls ≠ "java/lang/invoke/MethodHandle" ∧ yX5_readStatement.cls ≠ "java/lang/invoke/VarHandle" ∧ (parseMethodDescriptor yX5_readStatement.desc).map (fun d => d.parameters.length) = some 0 := by decide +kernel
set_option maxHeartbeats 4000000 in
set_option maxRecDepth 100000 in
theorem c_X5_read {l : Launch} {D : va_G} {cs : Nat → ClassId} {B0 T : Nat} {κ : KM} {H0 : Heap} (hT : WT B0 D cs T κ H0) {w : Nat} (hw : T2 κ w 6 10) {n : Nat} (hn : n ≤ 600) : KC l yX5_read wsX5_read 22 487 11 1332 D cs B0 H0 [.ref w, .int (nI n)] (Qn (fun r H => ∃ κ1, (∀ a, (κ a).1 ≠ 0 → a ≠ w → (κ a).2.1 ≠ 11 → κ1 a = κ a) ∧ (∀ a, (κ a).1 ≠ 0 → (κ1 a).1 = (κ a).1) ∧ T2 κ1 w 6 10 ∧ (κ1 w).2.2.1 = 0 ∧ WT B0 D cs T κ1 H ∧ Fr B0 [10, 11] κ H0 H ∧ Gr H0 H 8 714 ∧ (r = .null ∨ ∃ q, r = .ref q ∧ T2 κ1 q 7 15))) := by
  refine KC.of cX5_read 3 (some (.object "OneBeat$Setup")) (by decide) rfl (Nat.le_of_ble_eq_true rfl) ?_
  intro p e s m below meth c ls hx hb hr hml hown hts hlocks hin hN hE hH0 hl
  have hown : s.vm.findClass RX5 = some m.cls := hown
  have hl : lv_has ls 3 [(0, .ref w), (1, .int (nI n))] := hl
  have hL : OkL B0 [] := OkL.nil
  have hF : Fr B0 [10, 11] κ H0 H0 := Fr.rf
  refine lv_aload_n hx hb dX5_read_0 rfl (lv_at hl 0 rfl) ?_
  refine lv_iconst (v := 0) hx hb dX5_read_1 (by decide) ?_
  refine lv_iload_n hx hb dX5_read_2 rfl (lv_at hl 1 rfl) ?_
  refine lv_aload_n hx hb dX5_read_3 rfl (lv_at hl 0 rfl) ?_
  obtain ⟨hb2140, e2140, hat2140, hk2140⟩ := hT.o6 hw.1
  obtain ⟨f2140_0, f2140_2, f2140_3, f2140_4, f2140_5, f2140_6, f2140_7, f2140_8, f2140_9, f2140_10, f2140_11, f2140_12, f2140_13, rfl, c2140_1, c2140_2, c2140_3, c2140_5, c2140_10, t2140_0, t2140_9, c2140_11, c2140_p2⟩ := hk2140
  have hP : va_P D vwCl [(w, .inr (5, [.ref f2140_0, .int (nI ((κ w).2.2.1)), .int (nI f2140_2), .int (nI f2140_3), .int f2140_4, .int (nI f2140_5), .int f2140_6, .int f2140_7, .int f2140_8, .ref f2140_9, .int (nI f2140_10), f2140_11, .int f2140_12, .int f2140_13]))] _ := va_P.cons hat2140 va_P.nil
  refine va_get (D := D) (ci := 5) (v := .ref f2140_0) (C := RX5) (T := TX5) (N := 14) hx hb hts iX5_read_5 hown hN.1 hP 0 rfl rfl 0 (by decide) (hts _ mX5_read_1) (fun _ h9 => h9) rfl dX5_read_4 ?_
  obtain ⟨hb2141, e2141, hat2141, hk2141⟩ := hT.o16 t2140_0.1
  obtain ⟨g2141, rfl⟩ := hk2141
  have hP : va_P D vwCl [(f2140_0, .inl (cs 1, 600, .inl g2141)), (w, .inr (5, [.ref f2140_0, .int (nI ((κ w).2.2.1)), .int (nI f2140_2), .int (nI f2140_3), .int f2140_4, .int (nI f2140_5), .int f2140_6, .int f2140_7, .int f2140_8, .ref f2140_9, .int (nI f2140_10), f2140_11, .int f2140_12, .int f2140_13]))] _ := va_P.cons hat2141 hP
  refine va_alen (v := 600) hx hb hN.1 hP 0 1 rfl rfl rfl dX5_read_7 ?_
  refine va_mmin hx hb (hml.trans hl.1.symm) hown (hts _ mX5_read_2) (hts _ mX5_read_3) (hts _ mX5_read_4) (hts _ mX5_read_5) (Nat.le_of_ble_eq_true rfl) (Nat.le_of_ble_eq_true rfl) (Nat.zero_le _) (Nat.zero_le _) dX5_read_8 ?_
  obtain ⟨m2142, hm2142, em2142⟩ := nI_min (a := n) (b := 600) (by omega) (by omega)
  refine tp_i (nI m2142) em2142 ?_
  refine va_mmax hx hb (hml.trans hl.1.symm) hown (hts _ mX5_read_6) (hts _ mX5_read_7) (hts _ mX5_read_4) (hts _ mX5_read_8) (Nat.le_of_ble_eq_true rfl) (Nat.le_of_ble_eq_true rfl) (Nat.zero_le _) (Nat.zero_le _) dX5_read_11 ?_
  obtain ⟨m2143, hm2143, em2143⟩ := nI_max (a := 0) (b := m2142) (by omega) (by omega)
  refine tp_i (nI m2143) em2143 ?_
  have hB : Bx B0 D _ [(f2140_0, .inl (cs 1, 600, .inl g2141)), (w, .inr (5, [.ref f2140_0, .int (nI ((κ w).2.2.1)), .int (nI f2140_2), .int (nI f2140_3), .int f2140_4, .int (nI f2140_5), .int f2140_6, .int f2140_7, .int f2140_8, .ref f2140_9, .int (nI f2140_10), f2140_11, .int f2140_12, .int f2140_13]))] [] _ _ := Bx.of (fun a => (κ a).1) hL hP (fa_c hb2141 (fa_c hb2140 fa_n)) (by simp only [List.map_cons, List.map_nil, t2140_0.1, hw.1]; decide)
  refine b_put (D := D) (ci := 5) (v := .int (nI m2143)) (ty := .int) (C := RX5) (T := TX5) (N := 14) hx hb hts iX5_read_5 tyX5 tyX5_ok nmX5 hown hN hB 1 rfl rfl 2 (by decide) (hts _ mX5_read_9) (fun _ h9 => h9) rfl (by decide +kernel) rfl rfl (Nat.le_of_ble_eq_true rfl) (.inl rfl) dX5_read_14 (fun H locs hB => ?_)
  have hB : Bx B0 D _ [(f2140_0, .inl (cs 1, 600, .inl g2141)), (w, .inr (5, [.ref f2140_0, .int (nI ((κ w).2.2.1)), .int (nI m2143), .int (nI f2140_3), .int f2140_4, .int (nI f2140_5), .int f2140_6, .int f2140_7, .int f2140_8, .ref f2140_9, .int (nI f2140_10), f2140_11, .int f2140_12, .int f2140_13]))] [w] _ _ := hB
  refine lv_aload_n hx hb dX5_read_17 rfl (lv_at hl 0 rfl) ?_
  refine lv_iconst (v := 0) hx hb dX5_read_18 (by decide) ?_
  refine tp_i (nI 0) rfl ?_
  refine b_put (D := D) (ci := 5) (v := .int (nI 0)) (ty := .int) (C := RX5) (T := TX5) (N := 14) hx hb hts iX5_read_5 tyX5 tyX5_ok nmX5 hown hN hB 1 rfl rfl 1 (by decide) (hts _ mX5_read_10) (fun _ h9 => h9) rfl (by decide +kernel) rfl rfl (Nat.le_of_ble_eq_true rfl) (.inr ⟨rfl, List.mem_of_getElem? (i := 0) rfl⟩) dX5_read_19 (fun H locs hB => ?_)
  have hB : Bx B0 D _ [(f2140_0, .inl (cs 1, 600, .inl g2141)), (w, .inr (5, [.ref f2140_0, .int (nI 0), .int (nI m2143), .int (nI f2140_3), .int f2140_4, .int (nI f2140_5), .int f2140_6, .int f2140_7, .int f2140_8, .ref f2140_9, .int (nI f2140_10), f2140_11, .int f2140_12, .int f2140_13]))] [w] _ _ := hB
  refine lv_aload_n hx hb dX5_read_22 rfl (lv_at hl 0 rfl) ?_
  refine lv_iconst (v := 0) hx hb dX5_read_23 (by decide) ?_
  refine tp_i (nI 0) rfl ?_
  refine b_put (D := D) (ci := 5) (v := .int (nI 0)) (ty := .int) (C := RX5) (T := TX5) (N := 14) hx hb hts iX5_read_5 tyX5 tyX5_ok nmX5 hown hN hB 1 rfl rfl 3 (by decide) (hts _ mX5_read_11) (fun _ h9 => h9) rfl (by decide +kernel) rfl rfl (Nat.le_of_ble_eq_true rfl) (.inr ⟨rfl, List.mem_of_getElem? (i := 0) rfl⟩) dX5_read_24 (fun H locs hB => ?_)
  have hB : Bx B0 D _ [(f2140_0, .inl (cs 1, 600, .inl g2141)), (w, .inr (5, [.ref f2140_0, .int (nI 0), .int (nI m2143), .int (nI 0), .int f2140_4, .int (nI f2140_5), .int f2140_6, .int f2140_7, .int f2140_8, .ref f2140_9, .int (nI f2140_10), f2140_11, .int f2140_12, .int f2140_13]))] [w] _ _ := hB
  refine lv_aload_n hx hb dX5_read_27 rfl (lv_at hl 0 rfl) ?_
  refine lv_iconst (v := 0) hx hb dX5_read_28 (by decide) ?_
  refine tp_i (nI 0) rfl ?_
  refine b_put (D := D) (ci := 5) (v := .int (nI 0)) (ty := .int) (C := RX5) (T := TX5) (N := 14) hx hb hts iX5_read_5 tyX5 tyX5_ok nmX5 hown hN hB 1 rfl rfl 10 (by decide) (hts _ mX5_read_12) (fun _ h9 => h9) rfl (by decide +kernel) rfl rfl (Nat.le_of_ble_eq_true rfl) (.inr ⟨rfl, List.mem_of_getElem? (i := 0) rfl⟩) dX5_read_29 (fun H locs hB => ?_)
  have hB : Bx B0 D _ [(f2140_0, .inl (cs 1, 600, .inl g2141)), (w, .inr (5, [.ref f2140_0, .int (nI 0), .int (nI m2143), .int (nI 0), .int f2140_4, .int (nI f2140_5), .int f2140_6, .int f2140_7, .int f2140_8, .ref f2140_9, .int (nI 0), f2140_11, .int f2140_12, .int f2140_13]))] [w] _ _ := hB
  refine lv_aload_n hx hb dX5_read_32 rfl (lv_at hl 0 rfl) ?_
  refine lv_iconst (v := (-1)) hx hb dX5_read_33 (by decide) ?_
  refine b_put (D := D) (ci := 5) (v := .int (-1)) (ty := .int) (C := RX5) (T := TX5) (N := 14) hx hb hts iX5_read_5 tyX5 tyX5_ok nmX5 hown hN hB 1 rfl rfl 13 (by decide) (hts _ mX5_read_13) (fun _ h9 => h9) rfl (by decide +kernel) rfl rfl (Nat.le_of_ble_eq_true rfl) (.inr ⟨rfl, List.mem_of_getElem? (i := 0) rfl⟩) dX5_read_34 (fun H locs hB => ?_)
  have hB : Bx B0 D _ [(f2140_0, .inl (cs 1, 600, .inl g2141)), (w, .inr (5, [.ref f2140_0, .int (nI 0), .int (nI m2143), .int (nI 0), .int f2140_4, .int (nI f2140_5), .int f2140_6, .int f2140_7, .int f2140_8, .ref f2140_9, .int (nI 0), f2140_11, .int f2140_12, .int (-1)]))] [w] _ _ := hB
  have hF : Fr B0 [10, 11] κ H0 _ := hF.close hB (fa_c (by simp [hw.2]) fa_n)
  have hT : WT B0 D cs T (kp κ w 0 0) _ := hT.closeK w 0 0 hB (by rw [hw.1]; decide) (by rw [hw.1]; decide) (List.mem_of_getElem? (i := 0) rfl) ⟨⟨1, _, rfl, kp_ok (ok_6 (k := ((κ w).1, (κ w).2.1, _, _)) hw.1 ⟨_, _, _, _, _, _, _, _, _, _, _, _, _, rfl, (by show 0 ≤ 600; omega), (by omega), (by omega), (by omega), (by omega), (t2kp t2140_0), (t2kp t2140_9), (kp_su c2140_11), (Or.inl rfl)⟩)⟩, trivial⟩
  have hL : OkL B0 _ := hB.2.2.2.2.2
  obtain ⟨κ2144, hκ2144⟩ : ∃ κ9 : KM, κ9 = (kp κ w 0 0) := ⟨_, rfl⟩
  have hxf2144 : KF κ κ2144 := by rw [hκ2144]; exact KF.kp
  rw [← hκ2144] at hT
  have hKF : KF κ κ2144 := hxf2144
  have hw := (KF.t2 hxf2144 hw (by decide))
  have hKW : ∀ a, (κ a).1 ≠ 0 → a ≠ w → κ2144 a = κ a := fun a _ h9 => by rw [hκ2144, kp_n h9]
  have hw1 : (κ2144 w).2.2.1 = 0 := by rw [hκ2144, kp_a]
  refine lv_aload_n hx hb dX5_read_37 rfl (lv_at hl 0 rfl) ?_
  refine cv_v (As := []) (rest := []) (b := w) ⟨hx, hb, hml, hown, hts⟩ (c_X5_step hT (w := w) hw) (cwV 0 hts gX5_read_X5_step rfl rfl rfl hdX5_step_v ⟨Nat.le_of_ble_eq_true rfl, Nat.le_of_ble_eq_true rfl⟩) hN hE hL (rcv6 hN hT hw.1) rfl rfl hl.1 (Nat.le_of_ble_eq_true rfl) dX5_read_38 (Nat.zero_le _) (Nat.zero_le _) (fun H1 locs hL hqr2145 => ?_)
  obtain ⟨hT1, hF1, hqr2145⟩ := hqr2145
  have hF := hF.tr ((hF1.kf hKF).mono (by simp))
  have hT := hT1
  have f2146 := hqr2145
  refine lv_aload_n hx hb dX5_read_41 rfl (lv_at hl 0 rfl) ?_
  refine va_ldcS hx hb hown (hN.s 1 rfl) dX5_read_42 ?_
  refine cv_i (As := [.ref (cs 101)]) (rest := []) (b := w) ⟨hx, hb, hml, hown, hts⟩ (c_X5_takeWord hT (w := w) hw (i := 1) (by decide)) (cwV 1 hts gX5_read_X5_takeWord rfl rfl rfl hdX5_takeWord_v ⟨Nat.le_of_ble_eq_true rfl, Nat.le_of_ble_eq_true rfl⟩) hN hE hL (rcv6 hN hT hw.1) rfl rfl hl.1 (Nat.le_of_ble_eq_true rfl) dX5_read_44 (Nat.zero_le _) (Nat.zero_le _) (fun r2147 H1 locs hL hqr2147 => ?_)
  obtain ⟨hT1, hF1, hqr2147⟩ := hqr2147
  have hF := hF.tr ((hF1.kf hKF).mono (by simp))
  have hT := hT1
  rcases hqr2147 with rfl | rfl
  · refine lv_if_eq (tgt := 60) hx hb dX5_read_47 (by decide) (fun _ => ?_) (fun c9 => absurd (by decide) c9)
    refine lv_null hx hb dX5_read_60 ?_
    refine W.know (fun hg => ?_)
    rw [hH0] at hg
    exact en_n hx hb hr hlocks (by first | exact Or.inl ⟨_, rfl⟩ | exact Or.inr ⟨_, rfl⟩) hL (Nat.zero_le _) (Nat.zero_le _) (Or.inl rfl) dX5_read_61 (⟨κ2144, (fun a h1 h2 _ => hKW a h1 h2), (fun a h1 => (hKF a h1).1), hw, hw1, hT, hF, hg.mono (by omega) (by omega), Or.inl rfl⟩)
  · refine lv_if_eq (tgt := 60) hx hb dX5_read_47 (by decide) (fun c9 => absurd c9 (by decide)) (fun _ => ?_)
    refine lv_aload_n hx hb dX5_read_50 rfl (lv_at hl 0 rfl) ?_
    refine lv_iconst (v := 1) hx hb dX5_read_51 (by decide) ?_
    refine lv_bipush (v := 8) hx hb dX5_read_52 (by decide) ?_
    refine cv_i (As := [.int 1, .int 8]) (rest := []) (b := w) ⟨hx, hb, hml, hown, hts⟩ (c_X5_takeNumber hT (w := w) hw (x := 1) (y := 8)) (cwV 2 hts gX5_read_X5_takeNumber rfl rfl rfl hdX5_takeNumber_v ⟨Nat.le_of_ble_eq_true rfl, Nat.le_of_ble_eq_true rfl⟩) hN hE hL (rcv6 hN hT hw.1) rfl rfl hl.1 (Nat.le_of_ble_eq_true rfl) dX5_read_54 (Nat.zero_le _) (Nat.zero_le _) (fun r2148 H1 locs hL hqr2148 => ?_)
    obtain ⟨hT1, hF1, hqr2148⟩ := hqr2148
    have hF := hF.tr ((hF1.kf hKF).mono (by simp))
    have hT := hT1
    rcases hqr2148 with rfl | ⟨rfl, v2149, l2150, g2151, f2152⟩
    · refine lv_if_ne (tgt := 62) hx hb dX5_read_57 (by decide) (fun c9 => absurd (by decide) c9) (fun _ => ?_)
      refine lv_null hx hb dX5_read_60 ?_
      refine W.know (fun hg => ?_)
      rw [hH0] at hg
      exact en_n hx hb hr hlocks (by first | exact Or.inl ⟨_, rfl⟩ | exact Or.inr ⟨_, rfl⟩) hL (Nat.zero_le _) (Nat.zero_le _) (Or.inl rfl) dX5_read_61 (⟨κ2144, (fun a h1 h2 _ => hKW a h1 h2), (fun a h1 => (hKF a h1).1), hw, hw1, hT, hF, hg.mono (by omega) (by omega), Or.inl rfl⟩)
    · obtain ⟨n2153, hn2153a, hn2153b, rfl⟩ := rng (x := v2149) (lo := 1) (hi := 8) (by decide) (by decide) l2150 g2151
      refine lv_if_ne (tgt := 62) hx hb dX5_read_57 (by decide) (fun _ => ?_) (fun c9 => absurd c9 (by decide))
      refine lv_aload_n hx hb dX5_read_62 rfl (lv_at hl 0 rfl) ?_
      have hb0 : B0 ≤ _ := hT.b0 hw (by decide)
      have hP : va_P D vwCl [] _ := hT.nil
      have hB : Bx B0 D _ [] [] _ _ := Bx.of (fun a => (κ2144 a).1) hL hP fa_n (by simp only [List.map_cons, List.map_nil, ]; decide)
      refine nw_o (ci := 6) (fs := [.int 0, .int 0, .int 0, .null, .null, .null, .null, .null]) (C := RX6) (T := TX6) (N := 8) hx hb hts iX5_read_6 tyX6 tyX6_ok hown (hts _ mX5_read_14) (hts _ mX5_read_15) (hts _ mX5_read_16) hN rfl dfl6 (show 0 + 1 ≤ 11 by omega) (show 0 + 8 ≤ 1332 by omega) dX5_read_63 (fun q2154 H heq2154 hzq2154 hoq2154 hatq2154 => ?_)
      have hgeq2154 : _ ≤ q2154 := Nat.le_trans hB.2.2.1 (Nat.le_of_eq heq2154.symm)
      have hbq2154 : B0 ≤ q2154 := Nat.le_trans hb0 hgeq2154
      have hfq2154 : (κ2144 q2154).1 = 0 := hT.fresh hgeq2154
      have hB := hB.nw heq2154 hzq2154 hoq2154 hatq2154 hb0
      have hB : Bx B0 D _ [(q2154, .inr (6, [.int 0, .int 0, .int 0, .null, .null, .null, .null, .null]))] [] _ _ := hB
      have hT0 := hT
      refine lv_dup hx hb dX5_read_66 rfl ?_
      refine lv_aload_n hx hb dX5_read_67 rfl (lv_at hl 0 rfl) ?_
      obtain ⟨hb2155, e2155, hat2155, hk2155⟩ := hT.o6 hw.1
      obtain ⟨f2155_0, f2155_2, f2155_3, f2155_4, f2155_5, f2155_6, f2155_7, f2155_8, f2155_9, f2155_10, f2155_11, f2155_12, f2155_13, rfl, c2155_1, c2155_2, c2155_3, c2155_5, c2155_10, t2155_0, t2155_9, c2155_11, c2155_p2⟩ := hk2155
      obtain rfl : f2155_7 = nI n2153 := Value.int.inj (f2152.eq hat2155 rfl (by decide) rfl)
      have hB : Bx B0 D _ [(q2154, .inr (6, [.int 0, .int 0, .int 0, .null, .null, .null, .null, .null])), (w, .inr (5, [.ref f2155_0, .int (nI ((κ2144 w).2.2.1)), .int (nI f2155_2), .int (nI f2155_3), .int f2155_4, .int (nI f2155_5), .int f2155_6, .int (nI n2153), .int f2155_8, .ref f2155_9, .int (nI f2155_10), f2155_11, .int f2155_12, .int f2155_13]))] [] _ _ := hB.more hat2155 hb2155 (fa_c (nw_ne hat2155 hgeq2154) fa_n) fa_n
      refine va_get (D := D) (ci := 5) (v := .int (nI n2153)) (C := RX5) (T := TX5) (N := 14) hx hb hts iX5_read_5 hown hN.1 hB.1 1 rfl rfl 7 (by decide) (hts _ mX5_read_17) (fun _ h9 => h9) rfl dX5_read_68 ?_
      have hwO := hw
      have hKFO := hKF
      have hT : WT B0 D cs T κ2144 _ := hT.close hB trivial
      have hF : Fr B0 [10, 11] κ H0 _ := hF.closeN hB fa_n
      have hL : OkL B0 _ := hB.2.2.2.2.2
      have hP : va_P D vwCl [(q2154, .inr (6, [.int 0, .int 0, .int 0, .null, .null, .null, .null, .null])), (w, .inr (5, [.ref f2155_0, .int (nI ((κ2144 w).2.2.1)), .int (nI f2155_2), .int (nI f2155_3), .int f2155_4, .int (nI f2155_5), .int f2155_6, .int (nI n2153), .int f2155_8, .ref f2155_9, .int (nI f2155_10), f2155_11, .int f2155_12, .int f2155_13]))] _ := hB.1
      refine ci_v (As := [.int (nI n2153)]) (rest := [.ref q2154, .ref w]) (b := q2154) ⟨hx, hb, hml, hown, hts⟩ (c_X6_init hT (w := q2154) hfq2154 hbq2154 (hP 0 _ rfl) (n := n2153) (by first | omega | decide | assumption)) (cwI 1 hts gX5_read_X6_init rfl rfl rfl (hts _ mX5_read_16) (hts _ mX5_read_95) (hts _ mX5_read_96) rfl hdX6_init_o ⟨Nat.le_of_ble_eq_true rfl, Nat.le_of_ble_eq_true rfl⟩) hN hE hL rfl rfl hl.1 (Nat.le_of_ble_eq_true rfl) dX5_read_71 (show 1 + 4 ≤ 11 by omega) (show (0 + 8) + 88 ≤ 1332 by omega) (fun H1 locs hL hqr2156 => ?_)
      obtain ⟨κr2156, hxr2156, hT1, hF1, hqr2156⟩ := hqr2156
      have hF := hF.tr ((hF1.kf hKF).mono (by simp))
      have hT := hT1
      have hKF := hKF.tr hxr2156.f
      have hw := (hxr2156.f.t2 hw (by decide))
      obtain ⟨hq2154, hqr2156⟩ := hqr2156
      have ekq2154 := hqr2156
      have ew9 : κr2156 w = _ := hxr2156 w (by rw [hwO.1]; decide)
      have hKW : ∀ a, (κ a).1 ≠ 0 → a ≠ w → κr2156 a = κ a := fun a h1 h2 => (hxr2156 a (by rw [hKW a h1 h2]; exact h1)).trans (hKW a h1 h2)
      have hw1 : (κr2156 w).2.2.1 = 0 := by rw [ew9]; exact hw1
      have hsf : (κ q2154).1 = 0 := by have h9 := hfq2154; by_cases h8 : (κ q2154).1 = 0; exact h8; rw [(hKFO _ h8).1] at h9; exact h9
      have hq0 : ¬ q2154 = 0 := by have h9 := hT0.lt hwO (by decide); omega
      have hqw : q2154 ≠ w := ne_c hq2154.1 hw.1 (by decide)
      obtain ⟨hb2157, e2157, hat2157, hk2157⟩ := hT.o6 hw.1
      obtain ⟨f2157_0, f2157_2, f2157_3, f2157_4, f2157_5, f2157_6, f2157_7, f2157_8, f2157_9, f2157_10, f2157_11, f2157_12, f2157_13, rfl, c2157_1, c2157_2, c2157_3, c2157_5, c2157_10, t2157_0, t2157_9, c2157_11, c2157_p2⟩ := hk2157
      have hP : va_P D vwCl [(w, .inr (5, [.ref f2157_0, .int (nI ((κr2156 w).2.2.1)), .int (nI f2157_2), .int (nI f2157_3), .int f2157_4, .int (nI f2157_5), .int f2157_6, .int f2157_7, .int f2157_8, .ref f2157_9, .int (nI f2157_10), f2157_11, .int f2157_12, .int f2157_13]))] _ := va_P.cons hat2157 va_P.nil
      have hB : Bx B0 D _ [(w, .inr (5, [.ref f2157_0, .int (nI ((κr2156 w).2.2.1)), .int (nI f2157_2), .int (nI f2157_3), .int f2157_4, .int (nI f2157_5), .int f2157_6, .int f2157_7, .int f2157_8, .ref f2157_9, .int (nI f2157_10), f2157_11, .int f2157_12, .int f2157_13]))] [] _ _ := Bx.of (fun a => (κr2156 a).1) hL hP (fa_c hb2157 fa_n) (by simp only [List.map_cons, List.map_nil, hw.1]; decide)
      refine b_put (D := D) (ci := 5) (v := .ref q2154) (ty := .object "OneBeat$Setup") (C := RX5) (T := TX5) (N := 14) hx hb hts iX5_read_5 tyX5 tyX5_ok nmX5 hown hN hB 0 rfl rfl 11 (by decide) (hts _ mX5_read_18) (fun _ h9 => h9) rfl (by decide +kernel) rfl rfl (Nat.le_of_ble_eq_true rfl) (.inl rfl) dX5_read_74 (fun H locs hB => ?_)
      have hB : Bx B0 D _ [(w, .inr (5, [.ref f2157_0, .int (nI ((κr2156 w).2.2.1)), .int (nI f2157_2), .int (nI f2157_3), .int f2157_4, .int (nI f2157_5), .int f2157_6, .int f2157_7, .int f2157_8, .ref f2157_9, .int (nI f2157_10), .ref q2154, .int f2157_12, .int f2157_13]))] [w] _ _ := hB
      have hqO := hq2154
      have hF : Fr B0 [10, 11] κ H0 _ := hF.closeN hB (fa_c (fun h9 => by rw [← (hKF _ h9).2, hw.2]; simp) fa_n)
      have hT : WT B0 D cs T (kp κr2156 w (κr2156 w).2.2.1 q2154) _ := hT.closeK w (κr2156 w).2.2.1 q2154 hB (by rw [hw.1]; decide) (by rw [hw.1]; decide) (List.mem_of_getElem? (i := 0) rfl) ⟨⟨0, _, rfl, kp_ok (ok_6 (k := ((κr2156 w).1, (κr2156 w).2.1, _, _)) hw.1 ⟨_, _, _, _, _, _, _, _, _, _, _, _, _, rfl, (by show (κr2156 w).2.2.1 ≤ 600; omega), (by omega), (by omega), (by omega), (by omega), (t2kp t2157_0), (t2kp t2157_9), (kp_su (Or.inr ⟨_, rfl, hq2154.1⟩)), (Or.inr rfl)⟩)⟩, trivial⟩
      have hL : OkL B0 _ := hB.2.2.2.2.2
      obtain ⟨κ2158, hκ2158⟩ : ∃ κ9 : KM, κ9 = (kp κr2156 w (κr2156 w).2.2.1 q2154) := ⟨_, rfl⟩
      have hxf2158 : KF κr2156 κ2158 := by rw [hκ2158]; exact KF.kp
      rw [← hκ2158] at hT
      have hKF := hKF.tr hxf2158
      have hw := (KF.t2 hxf2158 hw (by decide))
      have hKW : ∀ a, (κ a).1 ≠ 0 → a ≠ w → κ2158 a = κ a := fun a h1 h9 => by rw [hκ2158, kp_n h9]; exact hKW a h1 h9
      have hw1 : (κ2158 w).2.2.1 = 0 := by rw [hκ2158, kp_a]; exact hw1
      have ewq : (κ2158 w).2.2.2 = q2154 := by rw [hκ2158, kp_a]
      have hsf : (κ (κ2158 w).2.2.2).1 = 0 := by rw [ewq]; exact hsf
      have hs0 : ¬ (κ2158 w).2.2.2 = 0 := by rw [ewq]; exact hq0
      have hsu : T2 κ2158 (κ2158 w).2.2.2 7 11 := by rw [ewq]; exact hxf2158.t2 hqO (by decide)
      have hp1 : (κ2158 (κ2158 w).2.2.2).2.2.1 ≠ 1 := by rw [ewq, hκ2158, kp_n hqw, ekq2154]; decide
      refine lv_aload_n hx hb dX5_read_77 rfl (lv_at hl 0 rfl) ?_
      refine lv_bipush (v := 59) hx hb dX5_read_78 (by decide) ?_
      refine cv_i (As := [.int 59]) (rest := []) (b := w) ⟨hx, hb, hml, hown, hts⟩ (c_X5_takeMark hT (w := w) hw (x := 59)) (cwV 1 hts gX5_read_X5_takeMark rfl rfl rfl hdX5_takeMark_v ⟨Nat.le_of_ble_eq_true rfl, Nat.le_of_ble_eq_true rfl⟩) hN hE hL (rcv6 hN hT hw.1) rfl rfl hl.1 (Nat.le_of_ble_eq_true rfl) dX5_read_80 (show 5 + 0 ≤ 11 by omega) (show ((0 + 8) + 88) + 0 ≤ 1332 by omega) (fun r2159 H1 locs hL hqr2159 => ?_)
      obtain ⟨hT1, hF1, hqr2159⟩ := hqr2159
      have hF := hF.tr ((hF1.kf hKF).mono (by simp))
      have hT := hT1
      rcases hqr2159 with rfl | rfl
      · refine lv_if_ne (tgt := 88) hx hb dX5_read_83 (by decide) (fun c9 => absurd (by decide) c9) (fun _ => ?_)
        refine lv_null hx hb dX5_read_86 ?_
        refine W.know (fun hg => ?_)
        rw [hH0] at hg
        exact en_n hx hb hr hlocks (by first | exact Or.inl ⟨_, rfl⟩ | exact Or.inr ⟨_, rfl⟩) hL (show 5 ≤ 11 by omega) (show ((0 + 8) + 88) ≤ 1332 by omega) (Or.inl rfl) dX5_read_87 (⟨κ2158, (fun a h1 h2 _ => hKW a h1 h2), (fun a h1 => (hKF a h1).1), hw, hw1, hT, hF, hg.mono (by omega) (by omega), Or.inl rfl⟩)
      · refine lv_if_ne (tgt := 88) hx hb dX5_read_83 (by decide) (fun _ => ?_) (fun c9 => absurd c9 (by decide))
        refine lv_iconst (v := 0) hx hb dX5_read_88 (by decide) ?_
        refine lv_istore_n (lv' := [(2, .int 0), (0, .ref w), (1, .int (nI n))]) hx hb dX5_read_89 rfl hl (by decide) rfl (fun ls hl => ?_)
        refine W.know (fun hg => ?_)
        rw [hH0] at hg
        have hgg : GG9 κ2158 w H0 _ := Or.inl ⟨hp1, hg.mono (by omega) (by omega)⟩
        refine W.tight (k := 8) (n := 714) (by rw [hH0]; exact hgg.all) ?_
        refine lp_m (α := Nat × KM) (nL := 3) (fun a9 => 600 - a9.1) (fun a9 H9 l9 => (a9.1 ≤ 600) ∧ (∀ a, (κ a).1 ≠ 0 → a ≠ w → a9.2 a = κ a) ∧ (KF κ a9.2) ∧ (T2 a9.2 w 6 10) ∧ ((a9.2 w).2.2.1 = 0) ∧ ((κ (a9.2 w).2.2.2).1 = 0) ∧ (¬ (a9.2 w).2.2.2 = 0) ∧ (T2 a9.2 (a9.2 w).2.2.2 7 11) ∧ (GG9 a9.2 w H0 H9) ∧ (WT B0 D cs T a9.2 H9) ∧ (Fr B0 [10, 11] κ H0 H9) ∧ (OkL B0 l9)) (fun a9 => [(2, .int (nI a9.1)), (0, .ref w)]) ?_ (0, κ2158) _ _ _ ⟨(by show (0) ≤ 600; omega), hKW, hKF, hw, hw1, hsf, hs0, hsu, hgg, hT, hF, hL⟩ (lv_sub hl [0, 1] rfl)
        rintro ⟨k, κ9⟩ H locs ls ih2160 ⟨hk, hKW, hKF, hw, hw1, hsf, hs0, hsu, hgg, hT, hF, hL⟩ hl
        have hl : lv_has ls 3 [(2, .int (nI k)), (0, .ref w)] := hl
        have hk : k ≤ 600 := hk
        have hKW : ∀ a, (κ a).1 ≠ 0 → a ≠ w → κ9 a = κ a := hKW
        have hKF : KF κ κ9 := hKF
        have hw : T2 κ9 w 6 10 := hw
        have hw1 : (κ9 w).2.2.1 = 0 := hw1
        have hsf : (κ (κ9 w).2.2.2).1 = 0 := hsf
        have hs0 : ¬ (κ9 w).2.2.2 = 0 := hs0
        have hsu : T2 κ9 (κ9 w).2.2.2 7 11 := hsu
        have hgg : GG9 κ9 w H0 H := hgg
        have hT : WT B0 D cs T κ9 _ := hT
        refine lv_iload_n hx hb dX5_read_90 rfl (lv_at hl 0 rfl) ?_
        refine lv_sipush (v := 600) hx hb dX5_read_91 (by decide) ?_
        refine lv_icmp_ge (tgt := 128) hx hb dX5_read_94 (by decide) (fun c2161 => ?_) (fun c2161 => ?_)
        · have c2161 : 600 ≤ k := (nI_leI (a := 600) (b := k) (by omega) (by omega)).mp c2161
          refine lv_aload_n hx hb dX5_read_128 rfl (lv_at hl 1 rfl) ?_
          obtain ⟨hb2162, e2162, hat2162, hk2162⟩ := hT.o6 hw.1
          obtain ⟨f2162_0, f2162_2, f2162_3, f2162_4, f2162_5, f2162_6, f2162_7, f2162_8, f2162_9, f2162_10, f2162_11, f2162_12, f2162_13, rfl, c2162_1, c2162_2, c2162_3, c2162_5, c2162_10, t2162_0, t2162_9, c2162_11, c2162_p2⟩ := hk2162
          obtain rfl : f2162_11 = .ref (κ9 w).2.2.2 := c2162_p2.resolve_left hs0
          have hP : va_P D vwCl [(w, .inr (5, [.ref f2162_0, .int (nI ((κ9 w).2.2.1)), .int (nI f2162_2), .int (nI f2162_3), .int f2162_4, .int (nI f2162_5), .int f2162_6, .int f2162_7, .int f2162_8, .ref f2162_9, .int (nI f2162_10), .ref (κ9 w).2.2.2, .int f2162_12, .int f2162_13]))] _ := va_P.cons hat2162 va_P.nil
          refine va_get (D := D) (ci := 5) (v := .ref (κ9 w).2.2.2) (C := RX5) (T := TX5) (N := 14) hx hb hts iX5_read_5 hown hN.1 hP 0 rfl rfl 11 (by decide) (hts _ mX5_read_18) (fun _ h9 => h9) rfl dX5_read_129 ?_
          refine cv_v (As := []) (rest := []) (b := (κ9 w).2.2.2) ⟨hx, hb, hml, hown, hts⟩ (KC.grv (c_X6_fillIn hT (w := (κ9 w).2.2.2) hsu)) (cwV 0 hts gX5_read_X6_fillIn rfl rfl rfl hdX6_fillIn_v ⟨Nat.le_of_ble_eq_true rfl, Nat.le_of_ble_eq_true rfl⟩) hN hE hL (rcv7 hN hT hsu.1) rfl rfl hl.1 (Nat.le_of_ble_eq_true rfl) dX5_read_132 (show 8 + 0 ≤ 11 by omega) (show 714 + 0 ≤ 1332 by omega) (fun H1 locs hL hqr2163 => ?_)
          obtain ⟨hgr2163, hqr2163⟩ := hqr2163
          obtain ⟨hT1, hF1⟩ := hqr2163
          have hP : va_P D vwCl [(w, .inr (5, [.ref f2162_0, .int (nI ((κ9 w).2.2.1)), .int (nI f2162_2), .int (nI f2162_3), .int f2162_4, .int (nI f2162_5), .int f2162_6, .int f2162_7, .int f2162_8, .ref f2162_9, .int (nI f2162_10), .ref (κ9 w).2.2.2, .int f2162_12, .int f2162_13]))] _ := hF1.hP (hP.sub [0] rfl) (fa_c ⟨by rw [hw.1]; decide, by rw [hw.2]; first | decide | (simp; done) | (simp; omega)⟩ fa_n)
          have hF := hF.tr ((hF1.kf hKF).mono (by simp))
          have hT := hT1
          have hgg : GG9 κ9 w H0 _ := hgg.gr hgr2163
          refine lv_aload_n hx hb dX5_read_135 rfl (lv_at hl 1 rfl) ?_
          refine va_get (D := D) (ci := 5) (v := .ref (κ9 w).2.2.2) (C := RX5) (T := TX5) (N := 14) hx hb hts iX5_read_5 hown hN.1 hP 0 rfl rfl 11 (by decide) (hts _ mX5_read_18) (fun _ h9 => h9) rfl dX5_read_136 ?_
          refine W.know (fun hg => ?_)
          rw [hH0] at hg
          exact en_n hx hb hr hlocks (by first | exact Or.inl ⟨_, rfl⟩ | exact Or.inr ⟨_, rfl⟩) hL (show 8 ≤ 11 by omega) (show 714 ≤ 1332 by omega) (Or.inr ⟨_, rfl⟩) dX5_read_139 (⟨ro κ9, (fun a h1 h2 h3 => by rw [ro_n (by rw [hKW a h1 h2]; exact h3)]; exact hKW a h1 h2), (fun a h1 => (hKF a h1).1), (by rw [T2, ro_n (by rw [hw.2]; decide)]; exact hw), (by rw [ro_n (by rw [hw.2]; decide)]; exact hw1), hT.re, hF, hgg.all, Or.inr ⟨_, rfl, ro_t hsu⟩⟩)
        · have c2161 : ¬ 600 ≤ k := fun h9 => c2161 ((nI_leI (a := 600) (b := k) (by omega) (by omega)).mpr h9)
          refine lv_aload_n hx hb dX5_read_97 rfl (lv_at hl 1 rfl) ?_
          obtain ⟨hb2164, e2164, hat2164, hk2164⟩ := hT.o6 hw.1
          obtain ⟨f2164_0, f2164_2, f2164_3, f2164_4, f2164_5, f2164_6, f2164_7, f2164_8, f2164_9, f2164_10, f2164_11, f2164_12, f2164_13, rfl, c2164_1, c2164_2, c2164_3, c2164_5, c2164_10, t2164_0, t2164_9, c2164_11, c2164_p2⟩ := hk2164
          obtain rfl : f2164_11 = .ref (κ9 w).2.2.2 := c2164_p2.resolve_left hs0
          have hP : va_P D vwCl [(w, .inr (5, [.ref f2164_0, .int (nI ((κ9 w).2.2.1)), .int (nI f2164_2), .int (nI f2164_3), .int f2164_4, .int (nI f2164_5), .int f2164_6, .int f2164_7, .int f2164_8, .ref f2164_9, .int (nI f2164_10), .ref (κ9 w).2.2.2, .int f2164_12, .int f2164_13]))] _ := va_P.cons hat2164 va_P.nil
          refine va_get (D := D) (ci := 5) (v := .int f2164_4) (C := RX5) (T := TX5) (N := 14) hx hb hts iX5_read_5 hown hN.1 hP 0 rfl rfl 4 (by decide) (hts _ mX5_read_19) (fun _ h9 => h9) rfl dX5_read_98 ?_
          refine lv_if_eq (tgt := 128) hx hb dX5_read_101 (by decide) (fun c2165 => ?_) (fun c2165 => ?_)
          · refine lv_aload_n hx hb dX5_read_128 rfl (lv_at hl 1 rfl) ?_
            refine va_get (D := D) (ci := 5) (v := .ref (κ9 w).2.2.2) (C := RX5) (T := TX5) (N := 14) hx hb hts iX5_read_5 hown hN.1 hP 0 rfl rfl 11 (by decide) (hts _ mX5_read_18) (fun _ h9 => h9) rfl dX5_read_129 ?_
            refine cv_v (As := []) (rest := []) (b := (κ9 w).2.2.2) ⟨hx, hb, hml, hown, hts⟩ (KC.grv (c_X6_fillIn hT (w := (κ9 w).2.2.2) hsu)) (cwV 0 hts gX5_read_X6_fillIn rfl rfl rfl hdX6_fillIn_v ⟨Nat.le_of_ble_eq_true rfl, Nat.le_of_ble_eq_true rfl⟩) hN hE hL (rcv7 hN hT hsu.1) rfl rfl hl.1 (Nat.le_of_ble_eq_true rfl) dX5_read_132 (show 8 + 0 ≤ 11 by omega) (show 714 + 0 ≤ 1332 by omega) (fun H1 locs hL hqr2166 => ?_)
            obtain ⟨hgr2166, hqr2166⟩ := hqr2166
            obtain ⟨hT1, hF1⟩ := hqr2166
            have hP : va_P D vwCl [(w, .inr (5, [.ref f2164_0, .int (nI ((κ9 w).2.2.1)), .int (nI f2164_2), .int (nI f2164_3), .int f2164_4, .int (nI f2164_5), .int f2164_6, .int f2164_7, .int f2164_8, .ref f2164_9, .int (nI f2164_10), .ref (κ9 w).2.2.2, .int f2164_12, .int f2164_13]))] _ := hF1.hP (hP.sub [0] rfl) (fa_c ⟨by rw [hw.1]; decide, by rw [hw.2]; first | decide | (simp; done) | (simp; omega)⟩ fa_n)
            have hF := hF.tr ((hF1.kf hKF).mono (by simp))
            have hT := hT1
            have hgg : GG9 κ9 w H0 _ := hgg.gr hgr2166
            refine lv_aload_n hx hb dX5_read_135 rfl (lv_at hl 1 rfl) ?_
            refine va_get (D := D) (ci := 5) (v := .ref (κ9 w).2.2.2) (C := RX5) (T := TX5) (N := 14) hx hb hts iX5_read_5 hown hN.1 hP 0 rfl rfl 11 (by decide) (hts _ mX5_read_18) (fun _ h9 => h9) rfl dX5_read_136 ?_
            refine W.know (fun hg => ?_)
            rw [hH0] at hg
            exact en_n hx hb hr hlocks (by first | exact Or.inl ⟨_, rfl⟩ | exact Or.inr ⟨_, rfl⟩) hL (show 8 ≤ 11 by omega) (show 714 ≤ 1332 by omega) (Or.inr ⟨_, rfl⟩) dX5_read_139 (⟨ro κ9, (fun a h1 h2 h3 => by rw [ro_n (by rw [hKW a h1 h2]; exact h3)]; exact hKW a h1 h2), (fun a h1 => (hKF a h1).1), (by rw [T2, ro_n (by rw [hw.2]; decide)]; exact hw), (by rw [ro_n (by rw [hw.2]; decide)]; exact hw1), hT.re, hF, hgg.all, Or.inr ⟨_, rfl, ro_t hsu⟩⟩)
          · refine lv_aload_n hx hb dX5_read_104 rfl (lv_at hl 1 rfl) ?_
            refine cv_i (As := []) (rest := []) (b := w) ⟨hx, hb, hml, hown, hts⟩ (c_X5_readStatement hT (w := w) hw (by first | omega | decide | assumption) (by first | omega | decide | assumption)) (cwV 0 hts gX5_read_X5_readStatement rfl rfl rfl hdX5_readStatement_v ⟨Nat.le_of_ble_eq_true rfl, Nat.le_of_ble_eq_true rfl⟩) hN hE hL (rcv6 hN hT hw.1) rfl rfl hl.1 (Nat.le_of_ble_eq_true rfl) dX5_read_105 (show 8 + 3 ≤ 11 by omega) (show 714 + 618 ≤ 1332 by omega) (fun r2167 H1 locs hL hqr2167 => ?_)
            obtain ⟨κr2167, hxr2167, hT1, hF1, hsr2167, hqr2167⟩ := hqr2167
            have hF := hF.tr ((hF1.kf hKF).mono (by simp))
            have hT := hT1
            have hxfr2167 := KSF hxr2167 hsu hsr2167
            have ew9 : κr2167 w = κ9 w := hxr2167 w (by rw [hw.1]; decide) (ne_c hw.1 hsu.1 (by decide))
            have hKW : ∀ a, (κ a).1 ≠ 0 → a ≠ w → κr2167 a = κ a := fun a h1 h2 => (hxr2167 a (by rw [hKW a h1 h2]; exact h1) (fun e9 => h1 (by rw [e9]; exact hsf))).trans (hKW a h1 h2)
            obtain ⟨hgs, hqr2167⟩ := hqr2167
            have hgg : GG9 κr2167 w H0 _ := hgg.step ew9 hgs
            have hsf : (κ (κr2167 w).2.2.2).1 = 0 := by rw [ew9]; exact hsf
            have hs0 : ¬ (κr2167 w).2.2.2 = 0 := by rw [ew9]; exact hs0
            have hsu : T2 κr2167 (κr2167 w).2.2.2 7 11 := by rw [ew9]; exact hsr2167
            have hw1 : (κr2167 w).2.2.1 = 0 := by rw [ew9]; exact hw1
            have hKF := hKF.tr hxfr2167
            have hw := (KF.t2 hxfr2167 hw (by decide))
            rcases hqr2167 with rfl | rfl
            · refine lv_if_eq (tgt := 120) hx hb dX5_read_108 (by decide) (fun _ => ?_) (fun c9 => absurd (by decide) c9)
              refine lv_null hx hb dX5_read_120 ?_
              refine W.know (fun hg => ?_)
              rw [hH0] at hg
              exact en_n hx hb hr hlocks (by first | exact Or.inl ⟨_, rfl⟩ | exact Or.inr ⟨_, rfl⟩) hL (show 11 ≤ 11 by omega) (show (714 + 618) ≤ 1332 by omega) (Or.inl rfl) dX5_read_121 (⟨κr2167, (fun a h1 h2 _ => hKW a h1 h2), (fun a h1 => (hKF a h1).1), hw, hw1, hT, hF, hgg.all, Or.inl rfl⟩)
            · refine lv_if_eq (tgt := 120) hx hb dX5_read_108 (by decide) (fun c9 => absurd c9 (by decide)) (fun _ => ?_)
              refine lv_aload_n hx hb dX5_read_111 rfl (lv_at hl 1 rfl) ?_
              refine lv_bipush (v := 59) hx hb dX5_read_112 (by decide) ?_
              refine cv_i (As := [.int 59]) (rest := []) (b := w) ⟨hx, hb, hml, hown, hts⟩ (KC.gri (c_X5_takeMark hT (w := w) hw (x := 59))) (cwV 1 hts gX5_read_X5_takeMark rfl rfl rfl hdX5_takeMark_v ⟨Nat.le_of_ble_eq_true rfl, Nat.le_of_ble_eq_true rfl⟩) hN hE hL (rcv6 hN hT hw.1) rfl rfl hl.1 (Nat.le_of_ble_eq_true rfl) dX5_read_114 (show 11 + 0 ≤ 11 by omega) (show (714 + 618) + 0 ≤ 1332 by omega) (fun r2168 H1 locs hL hqr2168 => ?_)
              obtain ⟨hgr2168, hqr2168⟩ := hqr2168
              obtain ⟨hT1, hF1, hqr2168⟩ := hqr2168
              have hF := hF.tr ((hF1.kf hKF).mono (by simp))
              have hT := hT1
              have hgg : GG9 κr2167 w H0 _ := hgg.gr hgr2168
              rcases hqr2168 with rfl | rfl
              · refine lv_if_ne (tgt := 122) hx hb dX5_read_117 (by decide) (fun c9 => absurd (by decide) c9) (fun _ => ?_)
                refine lv_null hx hb dX5_read_120 ?_
                refine W.know (fun hg => ?_)
                rw [hH0] at hg
                exact en_n hx hb hr hlocks (by first | exact Or.inl ⟨_, rfl⟩ | exact Or.inr ⟨_, rfl⟩) hL (show 11 ≤ 11 by omega) (show (714 + 618) ≤ 1332 by omega) (Or.inl rfl) dX5_read_121 (⟨κr2167, (fun a h1 h2 _ => hKW a h1 h2), (fun a h1 => (hKF a h1).1), hw, hw1, hT, hF, hgg.all, Or.inl rfl⟩)
              · refine lv_if_ne (tgt := 122) hx hb dX5_read_117 (by decide) (fun _ => ?_) (fun c9 => absurd c9 (by decide))
                refine lv_iinc (v := (nI (k + 1))) (lv' := [(2, .int (nI (k + 1))), (0, .ref w)]) hx hb dX5_read_122 hl (k := 0) rfl (nI_add _ 1) (by decide) rfl (fun ls hl => ?_)
                refine lv_goto (tgt := 90) hx hb dX5_read_125 (by decide) ?_
                refine W.tight (k := 8) (n := 714) (by rw [hH0]; exact hgg.all) ?_
                exact ih2160 ((k + 1), κr2167) _ _ _ (by show 600 - ((k + 1)) < 600 - k; omega) ⟨(by show ((k + 1)) ≤ 600; omega), hKW, hKF, hw, hw1, hsf, hs0, hsu, hgg, hT, hF, hL⟩ (lv_sub hl [0, 1] rfl)
