theorem mJ7_copyOf_59c91_7 : (.arrayClass .int : Cond) ∈ wsJ7_copyOf_59c91 := List.mem_of_getElem? (i := 7) (by decide +kernel)
theorem mJ7_copyOf_59c91_8 : (.methodLink RJ7 304 Lib.Math.min.name : Cond) ∈ wsJ7_copyOf_59c91 := List.mem_of_getElem? (i := 8) (by decide +kernel)
theorem mJ7_copyOf_59c91_9 : (.static Lib.Math.min.name : Cond) ∈ wsJ7_copyOf_59c91 := List.mem_of_getElem? (i := 9) (by decide +kernel)
theorem mJ7_copyOf_59c91_10 : (.initialized "java/lang/Math" : Cond) ∈ wsJ7_copyOf_59c91 := List.mem_of_getElem? (i := 10) (by decide +kernel)
theorem mJ7_copyOf_59c91_11 : (.code Lib.Math.min.name Lib.Math.min.code 2 (some .int) : Cond) ∈ wsJ7_copyOf_59c91 := List.mem_of_getElem? (i := 11) (by decide +kernel)
theorem mJ7_copyOf_59c91_12 : (.methodLink RJ7 150 arraycopyName : Cond) ∈ wsJ7_copyOf_59c91 := List.mem_of_getElem? (i := 12) (by decide +kernel)
theorem mJ7_copyOf_59c91_13 : (.native arraycopyName : Cond) ∈ wsJ7_copyOf_59c91 := List.mem_of_getElem? (i := 13) (by decide +kernel)
theorem mJ7_copyOf_59c91_14 : (.static arraycopyName : Cond) ∈ wsJ7_copyOf_59c91 := List.mem_of_getElem? (i := 14) (by decide +kernel)
theorem mJ7_copyOf_59c91_15 : (.initialized "java/lang/System" : Cond) ∈ wsJ7_copyOf_59c91 := List.mem_of_getElem? (i := 15) (by decide +kernel)
theorem mJ7_copyOf_59c91_1 : (.methodLink RJ7 316 ⟨"[I", "clone", "()Ljava/lang/Object;"⟩ : Cond) ∈ wsJ7_copyOf_59c91 := List.mem_of_getElem? (i := 1) (by decide +kernel)
theorem mJ7_copyOf_59c91_2 : (.sameMethod "[I" "java/lang/Object" "clone" "()Ljava/lang/Object;" : Cond) ∈ wsJ7_copyOf_59c91 := List.mem_of_getElem? (i := 2) (by decide +kernel)
theorem mJ7_copyOf_59c91_3 : (.native ⟨"java/lang/Object", "clone", "()Ljava/lang/Object;"⟩ : Cond) ∈ wsJ7_copyOf_59c91 := List.mem_of_getElem? (i := 3) (by decide +kernel)
theorem mJ7_copyOf_59c91_4 : (.instanceMethod ⟨"java/lang/Object", "clone", "()Ljava/lang/Object;"⟩ : Cond) ∈ wsJ7_copyOf_59c91 := List.mem_of_getElem? (i := 4) (by decide +kernel)
theorem mJ7_copyOf_59c91_5 : (.selects "[I" ⟨"[I", "clone", "()Ljava/lang/Object;"⟩ ⟨"java/lang/Object", "clone", "()Ljava/lang/Object;"⟩ : Cond) ∈ wsJ7_copyOf_59c91 := List.mem_of_getElem? (i := 5) (by decide +kernel)
theorem mJ7_copyOf_59c91_6 : (.classLink RJ7 317 "[I" : Cond) ∈ wsJ7_copyOf_59c91 := List.mem_of_getElem? (i := 6) (by decide +kernel)
set_option maxHeartbeats 4000000 in
set_option maxRecDepth 100000 in
theorem c_J7_copyOf_59c91 {l : Launch} {D : va_G} {cs : Nat → ClassId} {B0 : Nat} {H0 : Heap} {v n : Nat} {g : Nat → Int32} (hvb : B0 ≤ v) (hva : va_at D vwCl (v, .inl (cs 0, 600, .inl g)) H0) (hn : n ≤ 600) : KC l yJ7_copyOf_59c91 wsJ7_copyOf_59c91 1 60 1 600 D cs B0 H0 [.ref v, .int (nI n)] (Qr (fun r H => r = H0.size ∧ H.size = r + 1 ∧ (∀ x, x < r → H[x]? = H0[x]?) ∧ ∃ f, va_at D vwCl (r, .inl (cs 0, n, .inl f)) H)) := by
  refine KC.of cJ7_copyOf_59c91 3 (some (.array .int)) (by decide) rfl (Nat.le_of_ble_eq_true rfl) ?_
  intro p e s m below meth c ls hx hb hr hml hown hts hlocks hin hN hE hH0 hl
  have hown : s.vm.findClass RJ7 = some m.cls := hown
  have hl : lv_has ls 3 [(0, .ref v), (1, .int (nI n))] := hl
  have hL : OkL B0 [] := OkL.nil
  have hP : va_P D vwCl [(v, .inl (cs 0, 600, .inl g))] _ := va_P.cons hva va_P.nil
  have hb0 : B0 ≤ H0.size := Nat.le_trans hvb (Nat.le_of_lt hva.lt)
  refine lv_iload_n hx hb dJ7_copyOf_59c91_0 rfl (lv_at hl 1 rfl) ?_
  refine lv_aload_n hx hb dJ7_copyOf_59c91_1 rfl (lv_at hl 0 rfl) ?_
  refine va_alen (v := 600) hx hb hN.1 hP 0 0 rfl rfl rfl dJ7_copyOf_59c91_2 ?_
  refine lv_icmp_ne (tgt := 14) hx hb dJ7_copyOf_59c91_3 (by decide) (fun c5297 => ?_) (fun c5297 => ?_)
  · have c5297 : ¬ n = 600 := fun h9 => c5297 ((nI_eq (a := n) (b := 600) (by omega) (by omega)).mpr h9)
    refine lv_iload_n hx hb dJ7_copyOf_59c91_14 rfl (lv_at hl 1 rfl) ?_
    have hB : Bx B0 D _ [(v, .inl (cs 0, 600, .inl g))] [] _ _ := Bx.of (fun a => a) hL hP (fa_c hvb fa_n) (by simp)
    refine nw_a (atype := .int) (ty := .int) (N' := n) (a0 := (n, .inl (fun _ => 0))) 0 hN rfl hx hb (hts _ mJ7_copyOf_59c91_7) rfl (fun _ => rfl) (nI_pos (n := n) (by omega)) (nI_clamp (n := n) (by omega)) (show n * _ ≤ _ by simp only [componentBytes]; omega) (show 0 + 1 ≤ 1 by omega) (show 0 + n ≤ 600 by omega) dJ7_copyOf_59c91_15 (fun q5298 H heq5298 hzq5298 hoq5298 hatq5298 => ?_)
    have hB := hB.nwm heq5298 hzq5298 hoq5298 hatq5298 hb0
    have hB : Bx B0 D _ [(v, .inl (cs 0, 600, .inl g)), (q5298, .inl (cs 0, n, .inl (fun _ => 0)))] [q5298] _ _ := hB
    refine lv_astore_n (lv' := [(2, .ref q5298), (0, .ref v), (1, .int (nI n))]) hx hb dJ7_copyOf_59c91_17 rfl hl (by decide) rfl (fun ls hl => ?_)
    refine lv_aload_n hx hb dJ7_copyOf_59c91_18 rfl (lv_at hl 1 rfl) ?_
    refine lv_iconst (v := 0) hx hb dJ7_copyOf_59c91_19 (by decide) ?_
    refine lv_aload_n hx hb dJ7_copyOf_59c91_20 rfl (lv_at hl 0 rfl) ?_
    refine lv_iconst (v := 0) hx hb dJ7_copyOf_59c91_21 (by decide) ?_
    refine lv_aload_n hx hb dJ7_copyOf_59c91_22 rfl (lv_at hl 1 rfl) ?_
    refine va_alen (v := 600) hx hb hN.1 hB.1 0 0 rfl rfl rfl dJ7_copyOf_59c91_23 ?_
    refine lv_iload_n hx hb dJ7_copyOf_59c91_24 rfl (lv_at hl 2 rfl) ?_
    refine va_mmin hx hb (hml.trans hl.1.symm) hown (hts _ mJ7_copyOf_59c91_8) (hts _ mJ7_copyOf_59c91_9) (hts _ mJ7_copyOf_59c91_10) (hts _ mJ7_copyOf_59c91_11) (Nat.le_of_ble_eq_true rfl) (Nat.le_of_ble_eq_true rfl) (show 1 ≤ 1 by omega) (show (0 + n) ≤ 600 by omega) dJ7_copyOf_59c91_25 ?_
    obtain ⟨m5299, hm5299, em5299⟩ := nI_min (a := 600) (b := n) (by omega) (by omega)
    refine tp_i (nI m5299) em5299 ?_
    refine b_cpy hx hb (hml.trans hl.1.symm) hown (hts _ mJ7_copyOf_59c91_12) (hts _ mJ7_copyOf_59c91_13) (hts _ mJ7_copyOf_59c91_14) (hts _ mJ7_copyOf_59c91_15) hN hB 0 1 rfl rfl (nI_pos (n := 0) (by omega)) (nI_pos (n := 0) (by omega)) (nI_pos (n := m5299) (by omega)) (by rw [show (0 : Int32).toNatClampNeg = 0 from nI_clamp (n := 0) (by omega), show ((nI m5299) : Int32).toNatClampNeg = m5299 from nI_clamp (n := m5299) (by omega)]; omega) (by rw [show (0 : Int32).toNatClampNeg = 0 from nI_clamp (n := 0) (by omega), show ((nI m5299) : Int32).toNatClampNeg = m5299 from nI_clamp (n := m5299) (by omega)]; omega) (.inr ⟨rfl, List.mem_of_getElem? (i := 0) rfl⟩) (Nat.le_of_ble_eq_true rfl) (Nat.le_of_ble_eq_true rfl) dJ7_copyOf_59c91_28 (fun H locs hB => ?_)
    generalize va_cpy _ _ _ _ _ = g5300 at hB
    have hB : Bx B0 D _ [(v, .inl (cs 0, 600, .inl g)), (q5298, .inl (cs 0, n, .inl g5300))] [q5298] _ _ := hB
    refine lv_aload_n hx hb dJ7_copyOf_59c91_31 rfl (lv_at hl 0 rfl) ?_
    have hL : OkL B0 _ := hB.2.2.2.2.2
    refine W.know (fun hg => ?_)
    rw [hH0] at hg
    exact en_r hx hb hr hlocks (by first | exact Or.inl ⟨_, rfl⟩ | exact Or.inr ⟨_, rfl⟩) hL (show 1 ≤ 1 by omega) (show (0 + n) ≤ 600 by omega) dJ7_copyOf_59c91_32 (⟨heq5298, (by have h1 := hg.2.1; have h2 := (hB.1 1 _ rfl).lt; have h2 : q5298 < _ := h2; omega), (fun x hx9 => hB.2.2.2.1 x (by omega) (by simp; omega)), _, hB.1 1 _ rfl⟩)
  · have c5297 : n = 600 := (nI_eq (a := n) (b := 600) (by omega) (by omega)).mp c5297
    refine lv_aload_n hx hb dJ7_copyOf_59c91_6 rfl (lv_at hl 0 rfl) ?_
    refine nw_cl hx hb (hml.trans hl.1.symm) hown (hts _ mJ7_copyOf_59c91_1) (hts _ mJ7_copyOf_59c91_2) (hts _ mJ7_copyOf_59c91_3) (hts _ mJ7_copyOf_59c91_4) (hts _ mJ7_copyOf_59c91_5) hN (hP 0 _ rfl) (Nat.le_of_ble_eq_true rfl) (Nat.le_of_ble_eq_true rfl) (show 0 + 1 ≤ 1 by omega) (show 0 + 600 ≤ 600 by omega) dJ7_copyOf_59c91_7 (fun q5301 H heq5301 hzq5301 hoq5301 hatq5301 => ?_)
    refine nw_ca hx hb hown (hts _ mJ7_copyOf_59c91_6) hN hatq5301 dJ7_copyOf_59c91_10 ?_
    refine W.know (fun hg => ?_)
    rw [hH0] at hg
    obtain rfl : n = 600 := c5297
    exact en_r hx hb hr hlocks (by first | exact Or.inl ⟨_, rfl⟩ | exact Or.inr ⟨_, rfl⟩) hL (show 1 ≤ 1 by omega) (show (0 + 600) ≤ 600 by omega) dJ7_copyOf_59c91_13 (⟨heq5301, hzq5301, hoq5301, _, hatq5301⟩)
theorem mX0_init_1 : (.methodLink RX0 1 objectInit : Cond) ∈ wsX0_init := List.mem_of_getElem? (i := 1) (by decide +kernel)
theorem mX0_init_2 : (.instanceMethod objectInit : Cond) ∈ wsX0_init := List.mem_of_getElem? (i := 2) (by decide +kernel)
theorem mX0_init_3 : (.code objectInit ⟨#[0xb1]⟩ 1 none : Cond) ∈ wsX0_init := List.mem_of_getElem? (i := 3) (by decide +kernel)
theorem mX0_init_4 : (.arrayClass .int : Cond) ∈ wsX0_init := List.mem_of_getElem? (i := 4) (by decide +kernel)
theorem mX0_init_5 : (.fieldLink RX0 9 "OneBeat$Formula" "stack" "[I" : Cond) ∈ wsX0_init := List.mem_of_getElem? (i := 5) (by decide +kernel)
theorem iX0_init_0 : ∀ w ∈ wsX00, w ∈ wsX0_init := fun w h => List.mem_of_mem_drop (List.mem_of_mem_take ((show wsX00 = (wsX0_init.drop 25).take 2 by decide +kernel) ▸ h))
theorem hdJ7_copyOf_59c91_o : yJ7_copyOf_59c91.cls ≠ "java/lang/invoke/MethodHandle" ∧ yJ7_copyOf_59c91.cls ≠ "java/lang/invoke/VarHandle" ∧ (parseMethodDescriptor yJ7_copyOf_59c91.desc).map (fun d => d.parameters.length) = some 2 := by decide +kernel
theorem mX0_init_6 : (.fieldLink RX0 19 "OneBeat$Formula" "codes" "[I" : Cond) ∈ wsX0_init := List.mem_of_getElem? (i := 6) (by decide +kernel)
set_option maxHeartbeats 4000000 in
set_option maxRecDepth 100000 in
theorem c_X0_init {l : Launch} {D : va_G} {cs : Nat → ClassId} {B0 T : Nat} {κ : KM} {H0 : Heap} (hT : WT B0 D cs T κ H0) {w : Nat} (hfw : (κ w).1 = 0) (hwb : B0 ≤ w) (hwa : va_at D vwCl (w, .inr (0, [.null, .null])) H0) {v n : Nat} (hv : T2 κ v 17 10) (hn : n ≤ 600) : KC l yX0_init wsX0_init 2 82 2 616 D cs B0 H0 [.ref w, .ref v, .int (nI n)] (Qv (fun H => ∃ κ1, KX κ κ1 ∧ WT B0 D cs T κ1 H ∧ Fr B0 [] κ H0 H ∧ T2 κ1 w 1 15)) := by
  refine KC.of cX0_init 3 none (by decide) rfl (Nat.le_of_ble_eq_true rfl) ?_
  intro p e s m below meth c ls hx hb hr hml hown hts hlocks hin hN hE hH0 hl
  have hown : s.vm.findClass RX0 = some m.cls := hown
  have hl : lv_has ls 3 [(0, .ref w), (1, .ref v), (2, .int (nI n))] := hl
  have hL : OkL B0 [] := OkL.nil
  have hF : Fr B0 [] κ H0 H0 := Fr.rf
  have hP : va_P D vwCl [(w, .inr (0, [.null, .null]))] _ := va_P.cons hwa va_P.nil
  have hb0 : B0 ≤ H0.size := Nat.le_trans hwb (Nat.le_of_lt hwa.lt)
  refine lv_aload_n hx hb dX0_init_0 rfl (lv_at hl 0 rfl) ?_
  refine W.objInit hx hb hown (hts _ mX0_init_1) (hts _ mX0_init_2) (hts _ mX0_init_3) rfl (by rw [hml]; exact hl.1) rfl dX0_init_1 (Nat.le_of_ble_eq_true rfl) (Nat.le_of_ble_eq_true rfl) ?_
  refine W.eq (g2 := F0 m 4 ls []) rfl ?_
  refine lv_aload_n hx hb dX0_init_4 rfl (lv_at hl 0 rfl) ?_
  refine lv_bipush (v := 16) hx hb dX0_init_5 (by decide) ?_
  have hB : Bx B0 D _ [(w, .inr (0, [.null, .null]))] [] _ _ := Bx.of (fun a => (κ a).1) hL hP (fa_c hwb fa_n) (by simp only [List.map_cons, List.map_nil, hfw]; decide)
  refine nw_a (atype := .int) (ty := .int) (N' := 16) (a0 := (16, .inl (fun _ => 0))) 0 hN rfl hx hb (hts _ mX0_init_4) rfl (fun _ => rfl) (nI_pos (n := 16) (by omega)) (nI_clamp (n := 16) (by omega)) (show 16 * _ ≤ _ by simp only [componentBytes]; omega) (show 0 + 1 ≤ 2 by omega) (show 0 + 16 ≤ 616 by omega) dX0_init_7 (fun q5302 H heq5302 hzq5302 hoq5302 hatq5302 => ?_)
  have hgeq5302 : _ ≤ q5302 := Nat.le_trans hB.2.2.1 (Nat.le_of_eq heq5302.symm)
  have hbq5302 : B0 ≤ q5302 := Nat.le_trans hb0 hgeq5302
  have hfq5302 : (κ q5302).1 = 0 := hT.fresh hgeq5302
  have hB := hB.nwm heq5302 hzq5302 hoq5302 hatq5302 hb0
  have hB : Bx B0 D _ [(w, .inr (0, [.null, .null])), (q5302, .inl (cs 0, 16, .inl (fun _ => 0)))] [q5302] _ _ := hB
  refine b_putF (D := D) (ci := 0) (v := .ref q5302) (ty := .array .int) (C := RX0) (T := TX0) (N := 2) hx hb hts iX0_init_0 tyX0 tyX0_ok nmX0 hown hN hB 0 rfl rfl 1 (by decide) (hts _ mX0_init_5) (fun _ h9 => h9) rfl hin rfl (by decide +kernel) rfl rfl (Nat.le_of_ble_eq_true rfl) (.inl rfl) dX0_init_9 (fun H locs hB => ?_)
  have hB : Bx B0 D _ [(w, .inr (0, [.null, .ref q5302])), (q5302, .inl (cs 0, 16, .inl (fun _ => 0)))] [w, q5302] _ _ := hB
  refine lv_aload_n hx hb dX0_init_12 rfl (lv_at hl 0 rfl) ?_
  refine lv_aload_n hx hb dX0_init_13 rfl (lv_at hl 1 rfl) ?_
  refine lv_iload_n hx hb dX0_init_14 rfl (lv_at hl 2 rfl) ?_
  refine lv_if_ge (tgt := 22) hx hb dX0_init_15 (by decide) (fun c5303 => ?_) (fun c5303 => ?_)
  · have c5303 : 0 ≤ n := (nI_leI (a := 0) (b := n) (by omega) (by omega)).mp c5303
    refine lv_iload_n hx hb dX0_init_22 rfl (lv_at hl 2 rfl) ?_
    obtain ⟨hb5304, e5304, hat5304, hk5304⟩ := hT.o17 hv.1
    obtain ⟨g5304, rfl⟩ := hk5304
    have hB : Bx B0 D _ [(w, .inr (0, [.null, .ref q5302])), (q5302, .inl (cs 0, 16, .inl (fun _ => 0))), (v, .inl (cs 0, 600, .inl g5304))] [w, q5302] _ _ := hB.more hat5304 hb5304 (fa_c (ne_c hfw hv.1 (by decide))  (fa_c (nw_ne hat5304 hgeq5302) fa_n)) (fa_c (ne_c hfw hv.1 (by decide))  (fa_c (nw_ne hat5304 hgeq5302) fa_n))
    have hL : OkL B0 _ := hB.2.2.2.2.2
    refine cs_r (As := [.ref v, .int (nI n)]) (rest := [.ref w]) ⟨hx, hb, hml, hown, hts⟩ (c_J7_copyOf_59c91 (v := v) (n := n) hb5304 (hB.1 2 _ rfl) (by omega)) (va_cwS 2 hts gX0_init_J7_copyOf_59c91 rfl rfl rfl hdJ7_copyOf_59c91_o ⟨Nat.le_of_ble_eq_true rfl, Nat.le_of_ble_eq_true rfl⟩) hN hE hL rfl rfl hl.1 (Nat.le_of_ble_eq_true rfl) dX0_init_23 (show 1 + 1 ≤ 2 by omega) (show (0 + 16) + 600 ≤ 616 by omega) (fun q5305 H1 locs hL hqq5305 => ?_)
    obtain ⟨heq5305, hzq5305, hoq5305, gq5305, hatq5305⟩ := hqq5305
    have hB := hB.lc hL
    have hgeq5305 : _ ≤ q5305 := Nat.le_trans hB.2.2.1 (Nat.le_of_eq heq5305.symm)
    have hbq5305 : B0 ≤ q5305 := Nat.le_trans hb0 hgeq5305
    have hfq5305 : (κ q5305).1 = 0 := hT.fresh hgeq5305
    have hB := hB.nwm heq5305 hzq5305 hoq5305 hatq5305 hb0
    have hB : Bx B0 D _ [(w, .inr (0, [.null, .ref q5302])), (q5302, .inl (cs 0, 16, .inl (fun _ => 0))), (v, .inl (cs 0, 600, .inl g5304)), (q5305, .inl (cs 0, n, .inl gq5305))] [q5305, w, q5302] _ _ := hB
    refine b_putF (D := D) (ci := 0) (v := .ref q5305) (ty := .array .int) (C := RX0) (T := TX0) (N := 2) hx hb hts iX0_init_0 tyX0 tyX0_ok nmX0 hown hN hB 0 rfl rfl 0 (by decide) (hts _ mX0_init_6) (fun _ h9 => h9) rfl hin rfl (by decide +kernel) rfl rfl (Nat.le_of_ble_eq_true rfl) (.inr ⟨rfl, List.mem_of_getElem? (i := 1) rfl⟩) dX0_init_26 (fun H locs hB => ?_)
    have hB : Bx B0 D _ [(w, .inr (0, [.ref q5305, .ref q5302])), (q5302, .inl (cs 0, 16, .inl (fun _ => 0))), (v, .inl (cs 0, 600, .inl g5304)), (q5305, .inl (cs 0, n, .inl gq5305))] [q5305, w, q5302] _ _ := hB
    obtain ⟨κ5306, hκ5306⟩ : ∃ κ9 : KM, κ9 = (ku (ku (ku κ w (1, 15, 0, 0)) q5302 (22, 16, 0, 0)) q5305 (21, 15, 0, 0)) := ⟨_, rfl⟩
    have hx5306 : KX κ κ5306 := by rw [hκ5306]; exact (((KX.ku hfw).tr (KX.ku (by rw [ku_n (fun e9 => absurd (hB.2.1.1 1 0 _ _ rfl rfl e9) (by decide))]; exact hfq5302))).tr (KX.ku (by rw [ku_n (fun e9 => absurd (hB.2.1.1 3 1 _ _ rfl rfl e9) (by decide)), ku_n (fun e9 => absurd (hB.2.1.1 3 0 _ _ rfl rfl e9) (by decide))]; exact hfq5305)))
    have ew : κ5306 w = (1, 15, 0, 0) := by rw [hκ5306, ku_n (fun e9 => absurd (hB.2.1.1 0 3 _ _ rfl rfl e9) (by decide)), ku_n (fun e9 => absurd (hB.2.1.1 0 1 _ _ rfl rfl e9) (by decide)), ku_a]
    have hw : T2 κ5306 w 1 15 := ⟨by rw [ew], by rw [ew]⟩
    have eq5302 : κ5306 q5302 = (22, 16, 0, 0) := by rw [hκ5306, ku_n (fun e9 => absurd (hB.2.1.1 1 3 _ _ rfl rfl e9) (by decide)), ku_a]
    have hq5302 : T2 κ5306 q5302 22 16 := ⟨by rw [eq5302], by rw [eq5302]⟩
    have eq5305 : κ5306 q5305 = (21, 15, 0, 0) := by rw [hκ5306, ku_a]
    have hq5305 : T2 κ5306 q5305 21 15 := ⟨by rw [eq5305], by rw [eq5305]⟩
    have hx9 := hx5306
    have hT : WT B0 D cs T κ5306 _ := hT.closeN hB hx5306 (fun a9 h9 => by rw [hκ5306, ku_n (fun e9 => h9 (by rw [e9]; exact List.mem_of_getElem? (i := 0) rfl)), ku_n (fun e9 => h9 (by rw [e9]; exact List.mem_of_getElem? (i := 2) rfl)), ku_n (fun e9 => h9 (by rw [e9]; exact List.mem_of_getElem? (i := 1) rfl))]) ⟨⟨3, _, rfl, ok_21 hq5305.1 ⟨_, _, rfl, (by omega)⟩⟩, ⟨⟨0, _, rfl, ok_1 hw.1 ⟨_, _, rfl, hq5305, hq5302⟩⟩, ⟨⟨1, _, rfl, ok_22 hq5302.1 ⟨_, rfl⟩⟩, trivial⟩⟩⟩
    have hF : Fr B0 [] κ H0 _ := hF.closeN hB (fa_c (fun h9 => absurd hfq5305 h9) (fa_c (fun h9 => absurd hfw h9) (fa_c (fun h9 => absurd hfq5302 h9) fa_n)))
    have hL : OkL B0 _ := hB.2.2.2.2.2
    have hKF : KF κ κ5306 := hx5306.f
    have hKX : KX κ κ5306 := hx5306
    have hv := (hx5306.f.t2 hv (by decide))
    have hP : va_P D vwCl [(w, .inr (0, [.ref q5305, .ref q5302])), (q5302, .inl (cs 0, 16, .inl (fun _ => 0))), (v, .inl (cs 0, 600, .inl g5304)), (q5305, .inl (cs 0, n, .inl gq5305))] _ := hB.1
    exact en_v hx hb hr hlocks hL (show 2 ≤ 2 by omega) (show ((0 + 16) + 600) ≤ 616 by omega) dX0_init_29 (⟨_, hKX, hT, hF, hw⟩)
  · have c5303 : ¬ 0 ≤ n := fun h9 => c5303 ((nI_leI (a := 0) (b := n) (by omega) (by omega)).mpr h9)
    refine lv_iconst (v := 0) hx hb dX0_init_18 (by decide) ?_
    refine lv_goto (tgt := 23) hx hb dX0_init_19 (by decide) ?_
    obtain ⟨hb5307, e5307, hat5307, hk5307⟩ := hT.o17 hv.1
    obtain ⟨g5307, rfl⟩ := hk5307
    have hB : Bx B0 D _ [(w, .inr (0, [.null, .ref q5302])), (q5302, .inl (cs 0, 16, .inl (fun _ => 0))), (v, .inl (cs 0, 600, .inl g5307))] [w, q5302] _ _ := hB.more hat5307 hb5307 (fa_c (ne_c hfw hv.1 (by decide))  (fa_c (nw_ne hat5307 hgeq5302) fa_n)) (fa_c (ne_c hfw hv.1 (by decide))  (fa_c (nw_ne hat5307 hgeq5302) fa_n))
    have hL : OkL B0 _ := hB.2.2.2.2.2
    refine cs_r (As := [.ref v, .int 0]) (rest := [.ref w]) ⟨hx, hb, hml, hown, hts⟩ (c_J7_copyOf_59c91 (v := v) (n := 0) hb5307 (hB.1 2 _ rfl) (by omega)) (va_cwS 2 hts gX0_init_J7_copyOf_59c91 rfl rfl rfl hdJ7_copyOf_59c91_o ⟨Nat.le_of_ble_eq_true rfl, Nat.le_of_ble_eq_true rfl⟩) hN hE hL rfl rfl hl.1 (Nat.le_of_ble_eq_true rfl) dX0_init_23 (show 1 + 1 ≤ 2 by omega) (show (0 + 16) + 600 ≤ 616 by omega) (fun q5308 H1 locs hL hqq5308 => ?_)
    obtain ⟨heq5308, hzq5308, hoq5308, gq5308, hatq5308⟩ := hqq5308
    have hB := hB.lc hL
    have hgeq5308 : _ ≤ q5308 := Nat.le_trans hB.2.2.1 (Nat.le_of_eq heq5308.symm)
    have hbq5308 : B0 ≤ q5308 := Nat.le_trans hb0 hgeq5308
    have hfq5308 : (κ q5308).1 = 0 := hT.fresh hgeq5308
    have hB := hB.nwm heq5308 hzq5308 hoq5308 hatq5308 hb0
    have hB : Bx B0 D _ [(w, .inr (0, [.null, .ref q5302])), (q5302, .inl (cs 0, 16, .inl (fun _ => 0))), (v, .inl (cs 0, 600, .inl g5307)), (q5308, .inl (cs 0, 0, .inl gq5308))] [q5308, w, q5302] _ _ := hB
    refine b_putF (D := D) (ci := 0) (v := .ref q5308) (ty := .array .int) (C := RX0) (T := TX0) (N := 2) hx hb hts iX0_init_0 tyX0 tyX0_ok nmX0 hown hN hB 0 rfl rfl 0 (by decide) (hts _ mX0_init_6) (fun _ h9 => h9) rfl hin rfl (by decide +kernel) rfl rfl (Nat.le_of_ble_eq_true rfl) (.inr ⟨rfl, List.mem_of_getElem? (i := 1) rfl⟩) dX0_init_26 (fun H locs hB => ?_)
    have hB : Bx B0 D _ [(w, .inr (0, [.ref q5308, .ref q5302])), (q5302, .inl (cs 0, 16, .inl (fun _ => 0))), (v, .inl (cs 0, 600, .inl g5307)), (q5308, .inl (cs 0, 0, .inl gq5308))] [q5308, w, q5302] _ _ := hB
    obtain ⟨κ5309, hκ5309⟩ : ∃ κ9 : KM, κ9 = (ku (ku (ku κ w (1, 15, 0, 0)) q5302 (22, 16, 0, 0)) q5308 (21, 15, 0, 0)) := ⟨_, rfl⟩
    have hx5309 : KX κ κ5309 := by rw [hκ5309]; exact (((KX.ku hfw).tr (KX.ku (by rw [ku_n (fun e9 => absurd (hB.2.1.1 1 0 _ _ rfl rfl e9) (by decide))]; exact hfq5302))).tr (KX.ku (by rw [ku_n (fun e9 => absurd (hB.2.1.1 3 1 _ _ rfl rfl e9) (by decide)), ku_n (fun e9 => absurd (hB.2.1.1 3 0 _ _ rfl rfl e9) (by decide))]; exact hfq5308)))
    have ew : κ5309 w = (1, 15, 0, 0) := by rw [hκ5309, ku_n (fun e9 => absurd (hB.2.1.1 0 3 _ _ rfl rfl e9) (by decide)), ku_n (fun e9 => absurd (hB.2.1.1 0 1 _ _ rfl rfl e9) (by decide)), ku_a]
    have hw : T2 κ5309 w 1 15 := ⟨by rw [ew], by rw [ew]⟩
    have eq5302 : κ5309 q5302 = (22, 16, 0, 0) := by rw [hκ5309, ku_n (fun e9 => absurd (hB.2.1.1 1 3 _ _ rfl rfl e9) (by decide)), ku_a]
    have hq5302 : T2 κ5309 q5302 22 16 := ⟨by rw [eq5302], by rw [eq5302]⟩
    have eq5308 : κ5309 q5308 = (21, 15, 0, 0) := by rw [hκ5309, ku_a]
    have hq5308 : T2 κ5309 q5308 21 15 := ⟨by rw [eq5308], by rw [eq5308]⟩
    have hx9 := hx5309
    have hT : WT B0 D cs T κ5309 _ := hT.closeN hB hx5309 (fun a9 h9 => by rw [hκ5309, ku_n (fun e9 => h9 (by rw [e9]; exact List.mem_of_getElem? (i := 0) rfl)), ku_n (fun e9 => h9 (by rw [e9]; exact List.mem_of_getElem? (i := 2) rfl)), ku_n (fun e9 => h9 (by rw [e9]; exact List.mem_of_getElem? (i := 1) rfl))]) ⟨⟨3, _, rfl, ok_21 hq5308.1 ⟨_, _, rfl, (by omega)⟩⟩, ⟨⟨0, _, rfl, ok_1 hw.1 ⟨_, _, rfl, hq5308, hq5302⟩⟩, ⟨⟨1, _, rfl, ok_22 hq5302.1 ⟨_, rfl⟩⟩, trivial⟩⟩⟩
    have hF : Fr B0 [] κ H0 _ := hF.closeN hB (fa_c (fun h9 => absurd hfq5308 h9) (fa_c (fun h9 => absurd hfw h9) (fa_c (fun h9 => absurd hfq5302 h9) fa_n)))
    have hL : OkL B0 _ := hB.2.2.2.2.2
    have hKF : KF κ κ5309 := hx5309.f
    have hKX : KX κ κ5309 := hx5309
    have hv := (hx5309.f.t2 hv (by decide))
    have hP : va_P D vwCl [(w, .inr (0, [.ref q5308, .ref q5302])), (q5302, .inl (cs 0, 16, .inl (fun _ => 0))), (v, .inl (cs 0, 600, .inl g5307)), (q5308, .inl (cs 0, 0, .inl gq5308))] _ := hB.1
    exact en_v hx hb hr hlocks hL (show 2 ≤ 2 by omega) (show ((0 + 16) + 600) ≤ 616 by omega) dX0_init_29 (⟨_, hKX, hT, hF, hw⟩)
theorem mX6_init_1 : (.methodLink RX6 1 objectInit : Cond) ∈ wsX6_init := List.mem_of_getElem? (i := 1) (by decide +kernel)
theorem mX6_init_2 : (.instanceMethod objectInit : Cond) ∈ wsX6_init := List.mem_of_getElem? (i := 2) (by decide +kernel)
theorem mX6_init_3 : (.code objectInit ⟨#[0xb1]⟩ 1 none : Cond) ∈ wsX6_init := List.mem_of_getElem? (i := 3) (by decide +kernel)
theorem mX6_init_4 : (.arrayClass .boolean : Cond) ∈ wsX6_init := List.mem_of_getElem? (i := 4) (by decide +kernel)
theorem mX6_init_5 : (.fieldLink RX6 9 "OneBeat$Setup" "isClockTold" "[Z" : Cond) ∈ wsX6_init := List.mem_of_getElem? (i := 5) (by decide +kernel)
theorem iX6_init_6 : ∀ w ∈ wsX60, w ∈ wsX6_init := fun w h => List.mem_of_mem_drop (List.mem_of_mem_take ((show wsX60 = (wsX6_init.drop 11).take 8 by decide +kernel) ▸ h))
theorem mX6_init_6 : (.arrayClass .int : Cond) ∈ wsX6_init := List.mem_of_getElem? (i := 6) (by decide +kernel)
theorem mX6_init_7 : (.fieldLink RX6 13 "OneBeat$Setup" "offset" "[I" : Cond) ∈ wsX6_init := List.mem_of_getElem? (i := 7) (by decide +kernel)
theorem mX6_init_8 : (.fieldLink RX6 17 "OneBeat$Setup" "drift" "[I" : Cond) ∈ wsX6_init := List.mem_of_getElem? (i := 8) (by decide +kernel)
theorem mX6_init_9 : (.fieldLink RX6 20 "OneBeat$Setup" "delay" "[I" : Cond) ∈ wsX6_init := List.mem_of_getElem? (i := 9) (by decide +kernel)
theorem mX6_init_10 : (.fieldLink RX6 23 "OneBeat$Setup" "players" "I" : Cond) ∈ wsX6_init := List.mem_of_getElem? (i := 10) (by decide +kernel)
set_option maxHeartbeats 4000000 in
set_option maxRecDepth 100000 in
theorem c_X6_init {l : Launch} {D : va_G} {cs : Nat → ClassId} {B0 T : Nat} {κ : KM} {H0 : Heap} (hT : WT B0 D cs T κ H0) {w : Nat} (hfw : (κ w).1 = 0) (hwb : B0 ≤ w) (hwa : va_at D vwCl (w, .inr (6, [.int 0, .int 0, .int 0, .null, .null, .null, .null, .null])) H0) {n : Nat} (hn : n ≤ 8) : KC l yX6_init wsX6_init 1 20 4 88 D cs B0 H0 [.ref w, .int (nI n)] (Qv (fun H => ∃ κ1, KX κ κ1 ∧ WT B0 D cs T κ1 H ∧ Fr B0 [] κ H0 H ∧ T2 κ1 w 7 11 ∧ κ1 w = (7, 11, 0, 0))) := by
  refine KC.of cX6_init 2 none (by decide) rfl (Nat.le_of_ble_eq_true rfl) ?_
  intro p e s m below meth c ls hx hb hr hml hown hts hlocks hin hN hE hH0 hl
  have hown : s.vm.findClass RX6 = some m.cls := hown
  have hl : lv_has ls 2 [(0, .ref w), (1, .int (nI n))] := hl
  have hL : OkL B0 [] := OkL.nil
  have hF : Fr B0 [] κ H0 H0 := Fr.rf
  have hP : va_P D vwCl [(w, .inr (6, [.int 0, .int 0, .int 0, .null, .null, .null, .null, .null]))] _ := va_P.cons hwa va_P.nil
  have hb0 : B0 ≤ H0.size := Nat.le_trans hwb (Nat.le_of_lt hwa.lt)
  refine lv_aload_n hx hb dX6_init_0 rfl (lv_at hl 0 rfl) ?_
  refine W.objInit hx hb hown (hts _ mX6_init_1) (hts _ mX6_init_2) (hts _ mX6_init_3) rfl (by rw [hml]; exact hl.1) rfl dX6_init_1 (Nat.le_of_ble_eq_true rfl) (Nat.le_of_ble_eq_true rfl) ?_
  refine W.eq (g2 := F0 m 4 ls []) rfl ?_
  refine lv_aload_n hx hb dX6_init_4 rfl (lv_at hl 0 rfl) ?_
  refine lv_bipush (v := 8) hx hb dX6_init_5 (by decide) ?_
  have hB : Bx B0 D _ [(w, .inr (6, [.int 0, .int 0, .int 0, .null, .null, .null, .null, .null]))] [] _ _ := Bx.of (fun a => (κ a).1) hL hP (fa_c hwb fa_n) (by simp only [List.map_cons, List.map_nil, hfw]; decide)
  refine nw_a (atype := .boolean) (ty := .boolean) (N' := 8) (a0 := (8, .inl (fun _ => 0))) 2 hN rfl hx hb (hts _ mX6_init_4) rfl (fun _ => rfl) (nI_pos (n := 8) (by omega)) (nI_clamp (n := 8) (by omega)) (show 8 * _ ≤ _ by simp only [componentBytes]; omega) (show 0 + 1 ≤ 4 by omega) (show 0 + 8 ≤ 88 by omega) dX6_init_7 (fun q5310 H heq5310 hzq5310 hoq5310 hatq5310 => ?_)
  have hgeq5310 : _ ≤ q5310 := Nat.le_trans hB.2.2.1 (Nat.le_of_eq heq5310.symm)
  have hbq5310 : B0 ≤ q5310 := Nat.le_trans hb0 hgeq5310
  have hfq5310 : (κ q5310).1 = 0 := hT.fresh hgeq5310
  have hB := hB.nwm heq5310 hzq5310 hoq5310 hatq5310 hb0
  have hB : Bx B0 D _ [(w, .inr (6, [.int 0, .int 0, .int 0, .null, .null, .null, .null, .null])), (q5310, .inl (cs 2, 8, .inl (fun _ => 0)))] [q5310] _ _ := hB
  refine b_putF (D := D) (ci := 6) (v := .ref q5310) (ty := .array .boolean) (C := RX6) (T := TX6) (N := 8) hx hb hts iX6_init_6 tyX6 tyX6_ok nmX6 hown hN hB 0 rfl rfl 4 (by decide) (hts _ mX6_init_5) (fun _ h9 => h9) rfl hin rfl (by decide +kernel) rfl rfl (Nat.le_of_ble_eq_true rfl) (.inl rfl) dX6_init_9 (fun H locs hB => ?_)
  have hB : Bx B0 D _ [(w, .inr (6, [.int 0, .int 0, .int 0, .null, .ref q5310, .null, .null, .null])), (q5310, .inl (cs 2, 8, .inl (fun _ => 0)))] [w, q5310] _ _ := hB
  refine lv_aload_n hx hb dX6_init_12 rfl (lv_at hl 0 rfl) ?_
  refine lv_bipush (v := 8) hx hb dX6_init_13 (by decide) ?_
  refine nw_a (atype := .int) (ty := .int) (N' := 8) (a0 := (8, .inl (fun _ => 0))) 0 hN rfl hx hb (hts _ mX6_init_6) rfl (fun _ => rfl) (nI_pos (n := 8) (by omega)) (nI_clamp (n := 8) (by omega)) (show 8 * _ ≤ _ by simp only [componentBytes]; omega) (show 1 + 1 ≤ 4 by omega) (show (0 + 8) + 8 ≤ 88 by omega) dX6_init_15 (fun q5311 H heq5311 hzq5311 hoq5311 hatq5311 => ?_)
  have hgeq5311 : _ ≤ q5311 := Nat.le_trans hB.2.2.1 (Nat.le_of_eq heq5311.symm)
  have hbq5311 : B0 ≤ q5311 := Nat.le_trans hb0 hgeq5311
  have hfq5311 : (κ q5311).1 = 0 := hT.fresh hgeq5311
  have hB := hB.nwm heq5311 hzq5311 hoq5311 hatq5311 hb0
  have hB : Bx B0 D _ [(w, .inr (6, [.int 0, .int 0, .int 0, .null, .ref q5310, .null, .null, .null])), (q5310, .inl (cs 2, 8, .inl (fun _ => 0))), (q5311, .inl (cs 0, 8, .inl (fun _ => 0)))] [q5311, w, q5310] _ _ := hB
  refine b_putF (D := D) (ci := 6) (v := .ref q5311) (ty := .array .int) (C := RX6) (T := TX6) (N := 8) hx hb hts iX6_init_6 tyX6 tyX6_ok nmX6 hown hN hB 0 rfl rfl 5 (by decide) (hts _ mX6_init_7) (fun _ h9 => h9) rfl hin rfl (by decide +kernel) rfl rfl (Nat.le_of_ble_eq_true rfl) (.inr ⟨rfl, List.mem_of_getElem? (i := 1) rfl⟩) dX6_init_17 (fun H locs hB => ?_)
  have hB : Bx B0 D _ [(w, .inr (6, [.int 0, .int 0, .int 0, .null, .ref q5310, .ref q5311, .null, .null])), (q5310, .inl (cs 2, 8, .inl (fun _ => 0))), (q5311, .inl (cs 0, 8, .inl (fun _ => 0)))] [q5311, w, q5310] _ _ := hB
  refine lv_aload_n hx hb dX6_init_20 rfl (lv_at hl 0 rfl) ?_
  refine lv_bipush (v := 8) hx hb dX6_init_21 (by decide) ?_
  refine nw_a (atype := .int) (ty := .int) (N' := 8) (a0 := (8, .inl (fun _ => 0))) 0 hN rfl hx hb (hts _ mX6_init_6) rfl (fun _ => rfl) (nI_pos (n := 8) (by omega)) (nI_clamp (n := 8) (by omega)) (show 8 * _ ≤ _ by simp only [componentBytes]; omega) (show 2 + 1 ≤ 4 by omega) (show ((0 + 8) + 8) + 8 ≤ 88 by omega) dX6_init_23 (fun q5312 H heq5312 hzq5312 hoq5312 hatq5312 => ?_)
  have hgeq5312 : _ ≤ q5312 := Nat.le_trans hB.2.2.1 (Nat.le_of_eq heq5312.symm)
  have hbq5312 : B0 ≤ q5312 := Nat.le_trans hb0 hgeq5312
  have hfq5312 : (κ q5312).1 = 0 := hT.fresh hgeq5312
  have hB := hB.nwm heq5312 hzq5312 hoq5312 hatq5312 hb0
  have hB : Bx B0 D _ [(w, .inr (6, [.int 0, .int 0, .int 0, .null, .ref q5310, .ref q5311, .null, .null])), (q5310, .inl (cs 2, 8, .inl (fun _ => 0))), (q5311, .inl (cs 0, 8, .inl (fun _ => 0))), (q5312, .inl (cs 0, 8, .inl (fun _ => 0)))] [q5312, q5311, w, q5310] _ _ := hB
  refine b_putF (D := D) (ci := 6) (v := .ref q5312) (ty := .array .int) (C := RX6) (T := TX6) (N := 8) hx hb hts iX6_init_6 tyX6 tyX6_ok nmX6 hown hN hB 0 rfl rfl 6 (by decide) (hts _ mX6_init_8) (fun _ h9 => h9) rfl hin rfl (by decide +kernel) rfl rfl (Nat.le_of_ble_eq_true rfl) (.inr ⟨rfl, List.mem_of_getElem? (i := 2) rfl⟩) dX6_init_25 (fun H locs hB => ?_)
  have hB : Bx B0 D _ [(w, .inr (6, [.int 0, .int 0, .int 0, .null, .ref q5310, .ref q5311, .ref q5312, .null])), (q5310, .inl (cs 2, 8, .inl (fun _ => 0))), (q5311, .inl (cs 0, 8, .inl (fun _ => 0))), (q5312, .inl (cs 0, 8, .inl (fun _ => 0)))] [q5312, q5311, w, q5310] _ _ := hB
  refine lv_aload_n hx hb dX6_init_28 rfl (lv_at hl 0 rfl) ?_
  refine lv_bipush (v := 64) hx hb dX6_init_29 (by decide) ?_
  refine nw_a (atype := .int) (ty := .int) (N' := 64) (a0 := (64, .inl (fun _ => 0))) 0 hN rfl hx hb (hts _ mX6_init_6) rfl (fun _ => rfl) (nI_pos (n := 64) (by omega)) (nI_clamp (n := 64) (by omega)) (show 64 * _ ≤ _ by simp only [componentBytes]; omega) (show 3 + 1 ≤ 4 by omega) (show (((0 + 8) + 8) + 8) + 64 ≤ 88 by omega) dX6_init_31 (fun q5313 H heq5313 hzq5313 hoq5313 hatq5313 => ?_)
  have hgeq5313 : _ ≤ q5313 := Nat.le_trans hB.2.2.1 (Nat.le_of_eq heq5313.symm)
  have hbq5313 : B0 ≤ q5313 := Nat.le_trans hb0 hgeq5313
  have hfq5313 : (κ q5313).1 = 0 := hT.fresh hgeq5313
  have hB := hB.nwm heq5313 hzq5313 hoq5313 hatq5313 hb0
  have hB : Bx B0 D _ [(w, .inr (6, [.int 0, .int 0, .int 0, .null, .ref q5310, .ref q5311, .ref q5312, .null])), (q5310, .inl (cs 2, 8, .inl (fun _ => 0))), (q5311, .inl (cs 0, 8, .inl (fun _ => 0))), (q5312, .inl (cs 0, 8, .inl (fun _ => 0))), (q5313, .inl (cs 0, 64, .inl (fun _ => 0)))] [q5313, q5312, q5311, w, q5310] _ _ := hB
  refine b_putF (D := D) (ci := 6) (v := .ref q5313) (ty := .array .int) (C := RX6) (T := TX6) (N := 8) hx hb hts iX6_init_6 tyX6 tyX6_ok nmX6 hown hN hB 0 rfl rfl 7 (by decide) (hts _ mX6_init_9) (fun _ h9 => h9) rfl hin rfl (by decide +kernel) rfl rfl (Nat.le_of_ble_eq_true rfl) (.inr ⟨rfl, List.mem_of_getElem? (i := 3) rfl⟩) dX6_init_33 (fun H locs hB => ?_)
  have hB : Bx B0 D _ [(w, .inr (6, [.int 0, .int 0, .int 0, .null, .ref q5310, .ref q5311, .ref q5312, .ref q5313])), (q5310, .inl (cs 2, 8, .inl (fun _ => 0))), (q5311, .inl (cs 0, 8, .inl (fun _ => 0))), (q5312, .inl (cs 0, 8, .inl (fun _ => 0))), (q5313, .inl (cs 0, 64, .inl (fun _ => 0)))] [q5313, q5312, q5311, w, q5310] _ _ := hB
  refine lv_aload_n hx hb dX6_init_36 rfl (lv_at hl 0 rfl) ?_
  refine lv_iload_n hx hb dX6_init_37 rfl (lv_at hl 1 rfl) ?_
  refine b_putF (D := D) (ci := 6) (v := .int (nI n)) (ty := .int) (C := RX6) (T := TX6) (N := 8) hx hb hts iX6_init_6 tyX6 tyX6_ok nmX6 hown hN hB 0 rfl rfl 0 (by decide) (hts _ mX6_init_10) (fun _ h9 => h9) rfl hin rfl (by decide +kernel) rfl rfl (Nat.le_of_ble_eq_true rfl) (.inr ⟨rfl, List.mem_of_getElem? (i := 3) rfl⟩) dX6_init_38 (fun H locs hB => ?_)
  have hB : Bx B0 D _ [(w, .inr (6, [.int (nI n), .int 0, .int 0, .null, .ref q5310, .ref q5311, .ref q5312, .ref q5313])), (q5310, .inl (cs 2, 8, .inl (fun _ => 0))), (q5311, .inl (cs 0, 8, .inl (fun _ => 0))), (q5312, .inl (cs 0, 8, .inl (fun _ => 0))), (q5313, .inl (cs 0, 64, .inl (fun _ => 0)))] [q5313, q5312, q5311, w, q5310] _ _ := hB
  obtain ⟨κ5314, hκ5314⟩ : ∃ κ9 : KM, κ9 = (ku (ku (ku (ku (ku κ w (7, 11, 0, 0)) q5310 (18, 11, 0, 0)) q5311 (19, 11, 0, 0)) q5312 (19, 11, 0, 0)) q5313 (20, 11, 0, 0)) := ⟨_, rfl⟩
  have hx5314 : KX κ κ5314 := by rw [hκ5314]; exact (((((KX.ku hfw).tr (KX.ku (by rw [ku_n (fun e9 => absurd (hB.2.1.1 1 0 _ _ rfl rfl e9) (by decide))]; exact hfq5310))).tr (KX.ku (by rw [ku_n (fun e9 => absurd (hB.2.1.1 2 1 _ _ rfl rfl e9) (by decide)), ku_n (fun e9 => absurd (hB.2.1.1 2 0 _ _ rfl rfl e9) (by decide))]; exact hfq5311))).tr (KX.ku (by rw [ku_n (fun e9 => absurd (hB.2.1.1 3 2 _ _ rfl rfl e9) (by decide)), ku_n (fun e9 => absurd (hB.2.1.1 3 1 _ _ rfl rfl e9) (by decide)), ku_n (fun e9 => absurd (hB.2.1.1 3 0 _ _ rfl rfl e9) (by decide))]; exact hfq5312))).tr (KX.ku (by rw [ku_n (fun e9 => absurd (hB.2.1.1 4 3 _ _ rfl rfl e9) (by decide)), ku_n (fun e9 => absurd (hB.2.1.1 4 2 _ _ rfl rfl e9) (by decide)), ku_n (fun e9 => absurd (hB.2.1.1 4 1 _ _ rfl rfl e9) (by decide)), ku_n (fun e9 => absurd (hB.2.1.1 4 0 _ _ rfl rfl e9) (by decide))]; exact hfq5313)))
  have ew : κ5314 w = (7, 11, 0, 0) := by rw [hκ5314, ku_n (fun e9 => absurd (hB.2.1.1 0 4 _ _ rfl rfl e9) (by decide)), ku_n (fun e9 => absurd (hB.2.1.1 0 3 _ _ rfl rfl e9) (by decide)), ku_n (fun e9 => absurd (hB.2.1.1 0 2 _ _ rfl rfl e9) (by decide)), ku_n (fun e9 => absurd (hB.2.1.1 0 1 _ _ rfl rfl e9) (by decide)), ku_a]
  have hw : T2 κ5314 w 7 11 := ⟨by rw [ew], by rw [ew]⟩
  have eq5310 : κ5314 q5310 = (18, 11, 0, 0) := by rw [hκ5314, ku_n (fun e9 => absurd (hB.2.1.1 1 4 _ _ rfl rfl e9) (by decide)), ku_n (fun e9 => absurd (hB.2.1.1 1 3 _ _ rfl rfl e9) (by decide)), ku_n (fun e9 => absurd (hB.2.1.1 1 2 _ _ rfl rfl e9) (by decide)), ku_a]
  have hq5310 : T2 κ5314 q5310 18 11 := ⟨by rw [eq5310], by rw [eq5310]⟩
  have eq5311 : κ5314 q5311 = (19, 11, 0, 0) := by rw [hκ5314, ku_n (fun e9 => absurd (hB.2.1.1 2 4 _ _ rfl rfl e9) (by decide)), ku_n (fun e9 => absurd (hB.2.1.1 2 3 _ _ rfl rfl e9) (by decide)), ku_a]
  have hq5311 : T2 κ5314 q5311 19 11 := ⟨by rw [eq5311], by rw [eq5311]⟩
  have eq5312 : κ5314 q5312 = (19, 11, 0, 0) := by rw [hκ5314, ku_n (fun e9 => absurd (hB.2.1.1 3 4 _ _ rfl rfl e9) (by decide)), ku_a]
  have hq5312 : T2 κ5314 q5312 19 11 := ⟨by rw [eq5312], by rw [eq5312]⟩
  have eq5313 : κ5314 q5313 = (20, 11, 0, 0) := by rw [hκ5314, ku_a]
  have hq5313 : T2 κ5314 q5313 20 11 := ⟨by rw [eq5313], by rw [eq5313]⟩
  have hx9 := hx5314
  have hT : WT B0 D cs T κ5314 _ := hT.closeN hB hx5314 (fun a9 h9 => by rw [hκ5314, ku_n (fun e9 => h9 (by rw [e9]; exact List.mem_of_getElem? (i := 0) rfl)), ku_n (fun e9 => h9 (by rw [e9]; exact List.mem_of_getElem? (i := 1) rfl)), ku_n (fun e9 => h9 (by rw [e9]; exact List.mem_of_getElem? (i := 2) rfl)), ku_n (fun e9 => h9 (by rw [e9]; exact List.mem_of_getElem? (i := 4) rfl)), ku_n (fun e9 => h9 (by rw [e9]; exact List.mem_of_getElem? (i := 3) rfl))]) ⟨⟨4, _, rfl, ok_20 hq5313.1 ⟨_, rfl, (fun _ _ => ⟨0, Nat.zero_le _, rfl⟩)⟩⟩, ⟨⟨3, _, rfl, ok_19 hq5312.1 ⟨_, rfl⟩⟩, ⟨⟨2, _, rfl, ok_19 hq5311.1 ⟨_, rfl⟩⟩, ⟨⟨0, _, rfl, ok_7 hw.1 ⟨_, _, _, _, _, _, _, _, rfl, (by omega), (Or.inl rfl), (Or.inl (by rw [ew]; decide)), ⟨hq5310.1, by rw [ew]; exact hq5310.2⟩, ⟨hq5311.1, by rw [ew]; exact hq5311.2⟩, ⟨hq5312.1, by rw [ew]; exact hq5312.2⟩, ⟨hq5313.1, by rw [ew]; exact hq5313.2⟩⟩⟩, ⟨⟨1, _, rfl, ok_18 hq5310.1 ⟨_, rfl, (fun _ _ => Or.inl rfl)⟩⟩, trivial⟩⟩⟩⟩⟩
  have hF : Fr B0 [] κ H0 _ := hF.closeN hB (fa_c (fun h9 => absurd hfq5313 h9) (fa_c (fun h9 => absurd hfq5312 h9) (fa_c (fun h9 => absurd hfq5311 h9) (fa_c (fun h9 => absurd hfw h9) (fa_c (fun h9 => absurd hfq5310 h9) fa_n)))))
  have hL : OkL B0 _ := hB.2.2.2.2.2
  have hKF : KF κ κ5314 := hx5314.f
  have hKX : KX κ κ5314 := hx5314
  have hP : va_P D vwCl [(w, .inr (6, [.int (nI n), .int 0, .int 0, .null, .ref q5310, .ref q5311, .ref q5312, .ref q5313])), (q5310, .inl (cs 2, 8, .inl (fun _ => 0))), (q5311, .inl (cs 0, 8, .inl (fun _ => 0))), (q5312, .inl (cs 0, 8, .inl (fun _ => 0))), (q5313, .inl (cs 0, 64, .inl (fun _ => 0)))] _ := hB.1
  exact en_v hx hb hr hlocks hL (show 4 ≤ 4 by omega) (show ((((0 + 8) + 8) + 8) + 64) ≤ 88 by omega) dX6_init_41 (⟨_, hKX, hT, hF, hw, ew⟩)
theorem mX5_readStatement_7 : (.fieldLink RX5 124 "OneBeat$Reader" "start" "I" : Cond) ∈ wsX5_readStatement := List.mem_of_getElem? (i := 7) (by decide +kernel)
theorem iX5_readStatement_5 : ∀ w ∈ wsX50, w ∈ wsX5_readStatement := fun w h => List.mem_of_mem_drop (List.mem_of_mem_take ((show wsX50 = (wsX5_readStatement.drop 183).take 14 by decide +kernel) ▸ h))
theorem mX5_readStatement_1 : (.fieldLink RX5 65 "OneBeat$Reader" "setup" "LOneBeat$Setup;" : Cond) ∈ wsX5_readStatement := List.mem_of_getElem? (i := 1) (by decide +kernel)
theorem iX5_readStatement_6 : ∀ w ∈ wsX60, w ∈ wsX5_readStatement := fun w h => List.mem_of_mem_drop (List.mem_of_mem_take ((show wsX60 = (wsX5_readStatement.drop 197).take 8 by decide +kernel) ▸ h))
theorem iX5_readStatement_0 : ∀ w ∈ wsX00, w ∈ wsX5_readStatement := fun w h => List.mem_of_mem_drop (List.mem_of_mem_take ((show wsX00 = (wsX5_readStatement.drop 205).take 2 by decide +kernel) ▸ h))
theorem mX5_readStatement_2 : (.classLink RX5 119 RX0 : Cond) ∈ wsX5_readStatement := List.mem_of_getElem? (i := 2) (by decide +kernel)
theorem mX5_readStatement_3 : (.instantiable RX0 2 : Cond) ∈ wsX5_readStatement := List.mem_of_getElem? (i := 3) (by decide +kernel)
theorem mX5_readStatement_4 : (.initialized RX0 : Cond) ∈ wsX5_readStatement := List.mem_of_getElem? (i := 4) (by decide +kernel)
theorem dfl0 : ∀ j, j < 2 → defaultValue (tyX0 j) = vp_V [.null, .null] j := by decide +kernel
theorem mX5_readStatement_5 : (.fieldLink RX5 15 "OneBeat$Reader" "codes" "[I" : Cond) ∈ wsX5_readStatement := List.mem_of_getElem? (i := 5) (by decide +kernel)
theorem mX5_readStatement_6 : (.fieldLink RX5 38 "OneBeat$Reader" "codeCount" "I" : Cond) ∈ wsX5_readStatement := List.mem_of_getElem? (i := 6) (by decide +kernel)
theorem mX5_readStatement_157 : (.instanceMethod yX0_init : Cond) ∈ wsX5_readStatement := List.mem_of_getElem? (i := 157) (by decide +kernel)
theorem mX5_readStatement_156 : (.methodLink RX5 121 yX0_init : Cond) ∈ wsX5_readStatement := List.mem_of_getElem? (i := 156) (by decide +kernel)
theorem hdX0_init_o : yX0_init.cls ≠ "java/lang/invoke/MethodHandle" ∧ yX0_init.cls ≠ "java/lang/invoke/VarHandle" ∧ (parseMethodDescriptor yX0_init.desc).map (fun d => d.parameters.length) = some 2 := by decide +kernel
theorem hdX5_readPatience_v : yX5_readPatience.cls = RX5 ∧ yX5_readPatience.cls ≠ "java/lang/invoke/MethodHandle" ∧ yX5_readPatience.cls ≠ "java/lang/invoke/VarHandle" ∧ (parseMethodDescriptor yX5_readPatience.desc).map (fun d => d.parameters.length) = some 0 := by decide +kernel
theorem hdX5_readNeed_v : yX5_readNeed.cls = RX5 ∧ yX5_readNeed.cls ≠ "java/lang/invoke/MethodHandle" ∧ yX5_readNeed.cls ≠ "java/lang/invoke/VarHandle" ∧ (parseMethodDescriptor yX5_readNeed.desc).map (fun d => d.parameters.length) = some 0 := by decide +kernel
theorem hdX5_readLink_v : yX5_readLink.cls = RX5 ∧ yX5_readLink.cls ≠ "java/lang/invoke/MethodHandle" ∧ yX5_readLink.cls ≠ "java/lang/invoke/VarHandle" ∧ (parseMethodDescriptor yX5_readLink.desc).map (fun d => d.parameters.length) = some 0 := by decide +kernel
theorem hdX5_readClock_v : yX5_readClock.cls = RX5 ∧ yX5_readClock.cls ≠ "java/lang/invoke/MethodHandle" ∧ yX5_readClock.cls ≠ "java/lang/invoke/VarHandle" ∧ (parseMethodDescriptor yX5_readClock.desc).map (fun d => d.parameters.length) = some 0 := by decide +kernel
set_option maxHeartbeats 4000000 in
set_option maxRecDepth 100000 in
theorem c_X5_readStatement {l : Launch} {D : va_G} {cs : Nat → ClassId} {B0 T : Nat} {κ : KM} {H0 : Heap} (hT : WT B0 D cs T κ H0) {w : Nat} (hw : T2 κ w 6 10) (hs0 : ¬ (κ w).2.2.2 = 0) (hsu : T2 κ (κ w).2.2.2 7 11) : KC l yX5_readStatement wsX5_readStatement 21 467 3 618 D cs B0 H0 [.ref w] (Qi (fun r H => ∃ κ1, (∀ a, (κ a).1 ≠ 0 → a ≠ (κ w).2.2.2 → κ1 a = κ a) ∧ WT B0 D cs T κ1 H ∧ Fr B0 [10, 11] κ H0 H ∧ T2 κ1 (κ w).2.2.2 7 11 ∧ (((κ1 (κ w).2.2.2).2.2.1 = (κ (κ w).2.2.2).2.2.1 ∧ Gr H0 H 0 0) ∨ ((κ (κ w).2.2.2).2.2.1 ≠ 1 ∧ (κ1 (κ w).2.2.2).2.2.1 = 1 ∧ Gr H0 H 3 618)) ∧ (r = 0 ∨ r = 1))) := by
  refine KC.of cX5_readStatement 1 (some .boolean) (by decide) rfl (Nat.le_of_ble_eq_true rfl) ?_
  intro p e s m below meth c ls hx hb hr hml hown hts hlocks hin hN hE hH0 hl
  have hown : s.vm.findClass RX5 = some m.cls := hown
  have hl : lv_has ls 1 [(0, .ref w)] := hl
  have hL : OkL B0 [] := OkL.nil
  have hF : Fr B0 [10, 11] κ H0 H0 := Fr.rf
  refine lv_aload_n hx hb dX5_readStatement_0 rfl (lv_at hl 0 rfl) ?_
  refine va_ldcS hx hb hown (hN.s 2 rfl) dX5_readStatement_1 ?_
  refine cv_i (As := [.ref (cs 102)]) (rest := []) (b := w) ⟨hx, hb, hml, hown, hts⟩ (c_X5_isWord hT (w := w) hw (i := 2) (by decide)) (cwV 1 hts gX5_readStatement_X5_isWord rfl rfl rfl hdX5_isWord_v ⟨Nat.le_of_ble_eq_true rfl, Nat.le_of_ble_eq_true rfl⟩) hN hE hL (rcv6 hN hT hw.1) rfl rfl hl.1 (Nat.le_of_ble_eq_true rfl) dX5_readStatement_3 (Nat.zero_le _) (Nat.zero_le _) (fun r5315 H1 locs hL hqr5315 => ?_)
  obtain ⟨h9, hqr5315⟩ := hqr5315; replace h9 := h9.symm; subst h9
  rcases hqr5315 with rfl | rfl
  · refine lv_if_eq (tgt := 14) hx hb dX5_readStatement_6 (by decide) (fun _ => ?_) (fun c9 => absurd (by decide) c9)
    refine lv_aload_n hx hb dX5_readStatement_14 rfl (lv_at hl 0 rfl) ?_
    refine va_ldcS hx hb hown (hN.s 3 rfl) dX5_readStatement_15 ?_
    refine cv_i (As := [.ref (cs 103)]) (rest := []) (b := w) ⟨hx, hb, hml, hown, hts⟩ (c_X5_isWord hT (w := w) hw (i := 3) (by decide)) (cwV 1 hts gX5_readStatement_X5_isWord rfl rfl rfl hdX5_isWord_v ⟨Nat.le_of_ble_eq_true rfl, Nat.le_of_ble_eq_true rfl⟩) hN hE hL (rcv6 hN hT hw.1) rfl rfl hl.1 (Nat.le_of_ble_eq_true rfl) dX5_readStatement_17 (Nat.zero_le _) (Nat.zero_le _) (fun r5316 H1 locs hL hqr5316 => ?_)
    obtain ⟨h9, hqr5316⟩ := hqr5316; replace h9 := h9.symm; subst h9
    rcases hqr5316 with rfl | rfl
    · refine lv_if_eq (tgt := 28) hx hb dX5_readStatement_20 (by decide) (fun _ => ?_) (fun c9 => absurd (by decide) c9)
      refine lv_aload_n hx hb dX5_readStatement_28 rfl (lv_at hl 0 rfl) ?_
      refine va_ldcS hx hb hown (hN.s 4 rfl) dX5_readStatement_29 ?_
      refine cv_i (As := [.ref (cs 104)]) (rest := []) (b := w) ⟨hx, hb, hml, hown, hts⟩ (c_X5_isWord hT (w := w) hw (i := 4) (by decide)) (cwV 1 hts gX5_readStatement_X5_isWord rfl rfl rfl hdX5_isWord_v ⟨Nat.le_of_ble_eq_true rfl, Nat.le_of_ble_eq_true rfl⟩) hN hE hL (rcv6 hN hT hw.1) rfl rfl hl.1 (Nat.le_of_ble_eq_true rfl) dX5_readStatement_31 (Nat.zero_le _) (Nat.zero_le _) (fun r5317 H1 locs hL hqr5317 => ?_)
      obtain ⟨h9, hqr5317⟩ := hqr5317; replace h9 := h9.symm; subst h9
      rcases hqr5317 with rfl | rfl
      · refine lv_if_eq (tgt := 52) hx hb dX5_readStatement_34 (by decide) (fun _ => ?_) (fun c9 => absurd (by decide) c9)
        refine lv_aload_n hx hb dX5_readStatement_52 rfl (lv_at hl 0 rfl) ?_
        refine va_ldcS hx hb hown (hN.s 5 rfl) dX5_readStatement_53 ?_
        refine cv_i (As := [.ref (cs 105)]) (rest := []) (b := w) ⟨hx, hb, hml, hown, hts⟩ (c_X5_isWord hT (w := w) hw (i := 5) (by decide)) (cwV 1 hts gX5_readStatement_X5_isWord rfl rfl rfl hdX5_isWord_v ⟨Nat.le_of_ble_eq_true rfl, Nat.le_of_ble_eq_true rfl⟩) hN hE hL (rcv6 hN hT hw.1) rfl rfl hl.1 (Nat.le_of_ble_eq_true rfl) dX5_readStatement_55 (Nat.zero_le _) (Nat.zero_le _) (fun r5318 H1 locs hL hqr5318 => ?_)
        obtain ⟨h9, hqr5318⟩ := hqr5318; replace h9 := h9.symm; subst h9
        rcases hqr5318 with rfl | rfl
        · refine lv_if_eq (tgt := 76) hx hb dX5_readStatement_58 (by decide) (fun _ => ?_) (fun c9 => absurd (by decide) c9)
          refine lv_aload_n hx hb dX5_readStatement_76 rfl (lv_at hl 0 rfl) ?_
          refine va_ldcS hx hb hown (hN.s 6 rfl) dX5_readStatement_77 ?_
          refine cv_i (As := [.ref (cs 106)]) (rest := []) (b := w) ⟨hx, hb, hml, hown, hts⟩ (c_X5_isWord hT (w := w) hw (i := 6) (by decide)) (cwV 1 hts gX5_readStatement_X5_isWord rfl rfl rfl hdX5_isWord_v ⟨Nat.le_of_ble_eq_true rfl, Nat.le_of_ble_eq_true rfl⟩) hN hE hL (rcv6 hN hT hw.1) rfl rfl hl.1 (Nat.le_of_ble_eq_true rfl) dX5_readStatement_79 (Nat.zero_le _) (Nat.zero_le _) (fun r5319 H1 locs hL hqr5319 => ?_)
          obtain ⟨h9, hqr5319⟩ := hqr5319; replace h9 := h9.symm; subst h9
          rcases hqr5319 with rfl | rfl
          · refine lv_if_eq (tgt := 133) hx hb dX5_readStatement_82 (by decide) (fun _ => ?_) (fun c9 => absurd (by decide) c9)
            refine lv_aload_n hx hb dX5_readStatement_133 rfl (lv_at hl 0 rfl) ?_
            refine lv_bipush (v := (-2)) hx hb dX5_readStatement_134 (by decide) ?_
            refine lv_aload_n hx hb dX5_readStatement_136 rfl (lv_at hl 0 rfl) ?_
            obtain ⟨hb5320, e5320, hat5320, hk5320⟩ := hT.o6 hw.1
            obtain ⟨f5320_0, f5320_2, f5320_3, f5320_4, f5320_5, f5320_6, f5320_7, f5320_8, f5320_9, f5320_10, f5320_11, f5320_12, f5320_13, rfl, c5320_1, c5320_2, c5320_3, c5320_5, c5320_10, t5320_0, t5320_9, c5320_11, c5320_p2⟩ := hk5320
            obtain rfl : f5320_11 = .ref (κ w).2.2.2 := c5320_p2.resolve_left hs0
            have hP : va_P D vwCl [(w, .inr (5, [.ref f5320_0, .int (nI ((κ w).2.2.1)), .int (nI f5320_2), .int (nI f5320_3), .int f5320_4, .int (nI f5320_5), .int f5320_6, .int f5320_7, .int f5320_8, .ref f5320_9, .int (nI f5320_10), .ref (κ w).2.2.2, .int f5320_12, .int f5320_13]))] _ := va_P.cons hat5320 va_P.nil
            refine va_get (D := D) (ci := 5) (v := .int (nI f5320_5)) (C := RX5) (T := TX5) (N := 14) hx hb hts iX5_readStatement_5 hown hN.1 hP 0 rfl rfl 5 (by decide) (hts _ mX5_readStatement_7) (fun _ h9 => h9) rfl dX5_readStatement_137 ?_
            refine cv_i (As := [.int (-2), .int (nI f5320_5)]) (rest := []) (b := w) ⟨hx, hb, hml, hown, hts⟩ (c_X5_fail hT (w := w) hw (x := (-2)) (y := (nI f5320_5))) (cwV 2 hts gX5_readStatement_X5_fail rfl rfl rfl hdX5_fail_v ⟨Nat.le_of_ble_eq_true rfl, Nat.le_of_ble_eq_true rfl⟩) hN hE hL (rcv6 hN hT hw.1) rfl rfl hl.1 (Nat.le_of_ble_eq_true rfl) dX5_readStatement_140 (Nat.zero_le _) (Nat.zero_le _) (fun r5321 H1 locs hL hqr5321 => ?_)
            obtain ⟨hT1, hF1, hqr5321⟩ := hqr5321
            have hF := hF.tr (hF1.mono (by simp))
            have hT := hT1
            obtain rfl := hqr5321
            refine W.know (fun hg => ?_)
            rw [hH0] at hg
            exact en_i hx hb hr hlocks hL rfl (Nat.zero_le _) (Nat.zero_le _) dX5_readStatement_143 (⟨_, (fun _ _ _ => rfl), hT, hF, hsu, Or.inl ⟨rfl, hg⟩, Or.inl rfl⟩)
          · refine lv_if_eq (tgt := 133) hx hb dX5_readStatement_82 (by decide) (fun c9 => absurd c9 (by decide)) (fun _ => ?_)
            refine lv_aload_n hx hb dX5_readStatement_85 rfl (lv_at hl 0 rfl) ?_
            obtain ⟨hb5322, e5322, hat5322, hk5322⟩ := hT.o6 hw.1
            obtain ⟨f5322_0, f5322_2, f5322_3, f5322_4, f5322_5, f5322_6, f5322_7, f5322_8, f5322_9, f5322_10, f5322_11, f5322_12, f5322_13, rfl, c5322_1, c5322_2, c5322_3, c5322_5, c5322_10, t5322_0, t5322_9, c5322_11, c5322_p2⟩ := hk5322
            obtain rfl : f5322_11 = .ref (κ w).2.2.2 := c5322_p2.resolve_left hs0
            have hP : va_P D vwCl [(w, .inr (5, [.ref f5322_0, .int (nI ((κ w).2.2.1)), .int (nI f5322_2), .int (nI f5322_3), .int f5322_4, .int (nI f5322_5), .int f5322_6, .int f5322_7, .int f5322_8, .ref f5322_9, .int (nI f5322_10), .ref (κ w).2.2.2, .int f5322_12, .int f5322_13]))] _ := va_P.cons hat5322 va_P.nil
            refine va_get (D := D) (ci := 5) (v := .ref (κ w).2.2.2) (C := RX5) (T := TX5) (N := 14) hx hb hts iX5_readStatement_5 hown hN.1 hP 0 rfl rfl 11 (by decide) (hts _ mX5_readStatement_1) (fun _ h9 => h9) rfl dX5_readStatement_86 ?_
            obtain ⟨hb5323, e5323, hat5323, hk5323⟩ := hT.o7 hsu.1
            obtain ⟨f5323_0, f5323_1, f5323_2, f5323_3, f5323_4, f5323_5, f5323_6, f5323_7, rfl, c5323_0, c5323_3, c5323_mg, t5323_4, t5323_5, t5323_6, t5323_7⟩ := hk5323
            rw [hsu.2] at t5323_4
            rw [hsu.2] at t5323_5
            rw [hsu.2] at t5323_6
            rw [hsu.2] at t5323_7
            have hP : va_P D vwCl [((κ w).2.2.2, .inr (6, [.int (nI f5323_0), .int f5323_1, .int f5323_2, f5323_3, .ref f5323_4, .ref f5323_5, .ref f5323_6, .ref f5323_7])), (w, .inr (5, [.ref f5322_0, .int (nI ((κ w).2.2.1)), .int (nI f5322_2), .int (nI f5322_3), .int f5322_4, .int (nI f5322_5), .int f5322_6, .int f5322_7, .int f5322_8, .ref f5322_9, .int (nI f5322_10), .ref (κ w).2.2.2, .int f5322_12, .int f5322_13]))] _ := va_P.cons hat5323 hP
            rcases c5323_3 with rfl | ⟨a5324, rfl, ta5324⟩
            · refine va_getN (D := D) (ci := 6) (v := .null) (C := RX6) (T := TX6) (N := 8) hx hb hts iX5_readStatement_6 hown hN.1 hP 0 rfl rfl 3 (by decide) (hN.f 44 rfl) (fun _ h9 => h9) rfl dX5_readStatement_89 ?_
              refine lv_ifnonnullN hx hb dX5_readStatement_92 ?_
              have hmg1 : (κ (κ w).2.2.2).2.2.1 ≠ 1 := (c5323_mg).resolve_right (by rintro ⟨_, h9⟩; cases h9)
              refine lv_aload_n hx hb dX5_readStatement_95 rfl (lv_at hl 0 rfl) ?_
              refine cv_v (As := []) (rest := []) (b := w) ⟨hx, hb, hml, hown, hts⟩ (c_X5_step hT (w := w) hw) (cwV 0 hts gX5_readStatement_X5_step rfl rfl rfl hdX5_step_v ⟨Nat.le_of_ble_eq_true rfl, Nat.le_of_ble_eq_true rfl⟩) hN hE hL (rcv6 hN hT hw.1) rfl rfl hl.1 (Nat.le_of_ble_eq_true rfl) dX5_readStatement_96 (Nat.zero_le _) (Nat.zero_le _) (fun H1 locs hL hqr5325 => ?_)
              obtain ⟨hT1, hF1, hqr5325⟩ := hqr5325
              have hP : va_P D vwCl [((κ w).2.2.2, .inr (6, [.int (nI f5323_0), .int f5323_1, .int f5323_2, .null, .ref f5323_4, .ref f5323_5, .ref f5323_6, .ref f5323_7]))] _ := hF1.hP (hP.sub [0] rfl) (fa_c ⟨by rw [hsu.1]; decide, by rw [hsu.2]; first | decide | (simp; done) | (simp [h15a, h15b, h15c]; done) | (simp; omega)⟩ fa_n)
              have hF := hF.tr (hF1.mono (by simp))
              have hT := hT1
              have f5326 := hqr5325
              refine lv_aload_n hx hb dX5_readStatement_99 rfl (lv_at hl 0 rfl) ?_
              refine lv_iconst (v := 0) hx hb dX5_readStatement_100 (by decide) ?_
              refine cv_i (As := [.int 0]) (rest := []) (b := w) ⟨hx, hb, hml, hown, hts⟩ (c_X5_readSum_d0 hT (w := w) hw) (cwV 1 hts gX5_readStatement_X5_readSum rfl rfl rfl hdX5_readSum_v ⟨Nat.le_of_ble_eq_true rfl, Nat.le_of_ble_eq_true rfl⟩) hN hE hL (rcv6 hN hT hw.1) rfl rfl hl.1 (Nat.le_of_ble_eq_true rfl) dX5_readStatement_101 (Nat.zero_le _) (Nat.zero_le _) (fun r5327 H1 locs hL hqr5327 => ?_)
              obtain ⟨hT1, hF1, hqr5327⟩ := hqr5327
              have hP : va_P D vwCl [((κ w).2.2.2, .inr (6, [.int (nI f5323_0), .int f5323_1, .int f5323_2, .null, .ref f5323_4, .ref f5323_5, .ref f5323_6, .ref f5323_7]))] _ := hF1.hP (hP.sub [0] rfl) (fa_c ⟨by rw [hsu.1]; decide, by rw [hsu.2]; first | decide | (simp; done) | (simp [h15a, h15b, h15c]; done) | (simp; omega)⟩ fa_n)
              have hF := hF.tr (hF1.mono (by simp))
              have hT := hT1
              rcases hqr5327 with rfl | rfl
              · refine lv_if_ne (tgt := 109) hx hb dX5_readStatement_104 (by decide) (fun c9 => absurd (by decide) c9) (fun _ => ?_)
                refine lv_iconst (v := 0) hx hb dX5_readStatement_107 (by decide) ?_
                refine W.know (fun hg => ?_)
                rw [hH0] at hg
                exact en_i hx hb hr hlocks hL rfl (Nat.zero_le _) (Nat.zero_le _) dX5_readStatement_108 (⟨_, (fun _ _ _ => rfl), hT, hF, hsu, Or.inl ⟨rfl, hg⟩, Or.inl rfl⟩)
              · refine lv_if_ne (tgt := 109) hx hb dX5_readStatement_104 (by decide) (fun _ => ?_) (fun c9 => absurd c9 (by decide))
                refine lv_aload_n hx hb dX5_readStatement_109 rfl (lv_at hl 0 rfl) ?_
                obtain ⟨hb5328, e5328, hat5328, hk5328⟩ := hT.o6 hw.1
                obtain ⟨f5328_0, f5328_2, f5328_3, f5328_4, f5328_5, f5328_6, f5328_7, f5328_8, f5328_9, f5328_10, f5328_11, f5328_12, f5328_13, rfl, c5328_1, c5328_2, c5328_3, c5328_5, c5328_10, t5328_0, t5328_9, c5328_11, c5328_p2⟩ := hk5328
                obtain rfl : f5328_11 = .ref (κ w).2.2.2 := c5328_p2.resolve_left hs0
                have hP : va_P D vwCl [(w, .inr (5, [.ref f5328_0, .int (nI ((κ w).2.2.1)), .int (nI f5328_2), .int (nI f5328_3), .int f5328_4, .int (nI f5328_5), .int f5328_6, .int f5328_7, .int f5328_8, .ref f5328_9, .int (nI f5328_10), .ref (κ w).2.2.2, .int f5328_12, .int f5328_13])), ((κ w).2.2.2, .inr (6, [.int (nI f5323_0), .int f5323_1, .int f5323_2, .null, .ref f5323_4, .ref f5323_5, .ref f5323_6, .ref f5323_7]))] _ := va_P.cons hat5328 hP
                refine va_get (D := D) (ci := 5) (v := .ref (κ w).2.2.2) (C := RX5) (T := TX5) (N := 14) hx hb hts iX5_readStatement_5 hown hN.1 hP 0 rfl rfl 11 (by decide) (hts _ mX5_readStatement_1) (fun _ h9 => h9) rfl dX5_readStatement_110 ?_
                have hb0 : B0 ≤ _ := hT.b0 hw (by decide)
                have hB : Bx B0 D _ [(w, .inr (5, [.ref f5328_0, .int (nI ((κ w).2.2.1)), .int (nI f5328_2), .int (nI f5328_3), .int f5328_4, .int (nI f5328_5), .int f5328_6, .int f5328_7, .int f5328_8, .ref f5328_9, .int (nI f5328_10), .ref (κ w).2.2.2, .int f5328_12, .int f5328_13])), ((κ w).2.2.2, .inr (6, [.int (nI f5323_0), .int f5323_1, .int f5323_2, .null, .ref f5323_4, .ref f5323_5, .ref f5323_6, .ref f5323_7]))] [] _ _ := Bx.of (fun a => (κ a).1) hL hP (fa_c hb5328 (fa_c hb5323 fa_n)) (by simp only [List.map_cons, List.map_nil, hw.1, hsu.1]; decide)
                refine nw_o (ci := 0) (fs := [.null, .null]) (C := RX0) (T := TX0) (N := 2) hx hb hts iX5_readStatement_0 tyX0 tyX0_ok hown (hts _ mX5_readStatement_2) (hts _ mX5_readStatement_3) (hts _ mX5_readStatement_4) hN rfl dfl0 (show 0 + 1 ≤ 3 by omega) (show 0 + 2 ≤ 618 by omega) dX5_readStatement_113 (fun q5329 H heq5329 hzq5329 hoq5329 hatq5329 => ?_)
                have hgeq5329 : _ ≤ q5329 := Nat.le_trans hB.2.2.1 (Nat.le_of_eq heq5329.symm)
                have hbq5329 : B0 ≤ q5329 := Nat.le_trans hb0 hgeq5329
                have hfq5329 : (κ q5329).1 = 0 := hT.fresh hgeq5329
                have hB := hB.nw heq5329 hzq5329 hoq5329 hatq5329 hb0
                have hB : Bx B0 D _ [(w, .inr (5, [.ref f5328_0, .int (nI ((κ w).2.2.1)), .int (nI f5328_2), .int (nI f5328_3), .int f5328_4, .int (nI f5328_5), .int f5328_6, .int f5328_7, .int f5328_8, .ref f5328_9, .int (nI f5328_10), .ref (κ w).2.2.2, .int f5328_12, .int f5328_13])), ((κ w).2.2.2, .inr (6, [.int (nI f5323_0), .int f5323_1, .int f5323_2, .null, .ref f5323_4, .ref f5323_5, .ref f5323_6, .ref f5323_7])), (q5329, .inr (0, [.null, .null]))] [] _ _ := hB
                refine lv_dup hx hb dX5_readStatement_116 rfl ?_
                refine lv_aload_n hx hb dX5_readStatement_117 rfl (lv_at hl 0 rfl) ?_
                refine va_get (D := D) (ci := 5) (v := .ref f5328_9) (C := RX5) (T := TX5) (N := 14) hx hb hts iX5_readStatement_5 hown hN.1 hB.1 0 rfl rfl 9 (by decide) (hts _ mX5_readStatement_5) (fun _ h9 => h9) rfl dX5_readStatement_118 ?_
                refine lv_aload_n hx hb dX5_readStatement_121 rfl (lv_at hl 0 rfl) ?_
                refine va_get (D := D) (ci := 5) (v := .int (nI f5328_10)) (C := RX5) (T := TX5) (N := 14) hx hb hts iX5_readStatement_5 hown hN.1 hB.1 0 rfl rfl 10 (by decide) (hts _ mX5_readStatement_6) (fun _ h9 => h9) rfl dX5_readStatement_122 ?_
                have hT : WT B0 D cs T κ _ := hT.close hB trivial
                have hF : Fr B0 [10, 11] κ H0 _ := hF.close hB fa_n
                have hL : OkL B0 _ := hB.2.2.2.2.2
                have hP : va_P D vwCl [(w, .inr (5, [.ref f5328_0, .int (nI ((κ w).2.2.1)), .int (nI f5328_2), .int (nI f5328_3), .int f5328_4, .int (nI f5328_5), .int f5328_6, .int f5328_7, .int f5328_8, .ref f5328_9, .int (nI f5328_10), .ref (κ w).2.2.2, .int f5328_12, .int f5328_13])), ((κ w).2.2.2, .inr (6, [.int (nI f5323_0), .int f5323_1, .int f5323_2, .null, .ref f5323_4, .ref f5323_5, .ref f5323_6, .ref f5323_7])), (q5329, .inr (0, [.null, .null]))] _ := hB.1
                refine ci_v (As := [.ref f5328_9, .int (nI f5328_10)]) (rest := [.ref q5329, .ref (κ w).2.2.2]) (b := q5329) ⟨hx, hb, hml, hown, hts⟩ (c_X0_init hT (w := q5329) hfq5329 hbq5329 (hP 2 _ rfl) (v := f5328_9) t5328_9 (n := f5328_10) (by first | omega | decide | assumption)) (cwI 2 hts gX5_readStatement_X0_init rfl rfl rfl (hts _ mX5_readStatement_4) (hts _ mX5_readStatement_156) (hts _ mX5_readStatement_157) rfl hdX0_init_o ⟨Nat.le_of_ble_eq_true rfl, Nat.le_of_ble_eq_true rfl⟩) hN hE hL rfl rfl hl.1 (Nat.le_of_ble_eq_true rfl) dX5_readStatement_125 (show 1 + 2 ≤ 3 by omega) (show (0 + 2) + 616 ≤ 618 by omega) (fun H1 locs hL hqr5330 => ?_)
                obtain ⟨κr5330, hxr5330, hT1, hF1, hqr5330⟩ := hqr5330
                have hF := hF.tr (hF1.mono (by simp))
                have hT := hT1
                have hKF : KF κ κr5330 := hxr5330.f
                have hKX : KX κ κr5330 := hxr5330
                have hw := (hxr5330.f.t2 hw (by decide))
                have hsu := (hxr5330.f.t2 hsu (by decide))
                have hq5329 := hqr5330
                obtain ⟨hb5331, e5331, hat5331, hk5331⟩ := hT.o7 hsu.1
                obtain ⟨f5331_0, f5331_1, f5331_2, f5331_3, f5331_4, f5331_5, f5331_6, f5331_7, rfl, c5331_0, c5331_3, c5331_mg, t5331_4, t5331_5, t5331_6, t5331_7⟩ := hk5331
                rw [hsu.2] at t5331_4
                rw [hsu.2] at t5331_5
                rw [hsu.2] at t5331_6
                rw [hsu.2] at t5331_7
                have hP : va_P D vwCl [((κ w).2.2.2, .inr (6, [.int (nI f5331_0), .int f5331_1, .int f5331_2, f5331_3, .ref f5331_4, .ref f5331_5, .ref f5331_6, .ref f5331_7]))] _ := va_P.cons hat5331 va_P.nil
                have hB : Bx B0 D _ [((κ w).2.2.2, .inr (6, [.int (nI f5331_0), .int f5331_1, .int f5331_2, f5331_3, .ref f5331_4, .ref f5331_5, .ref f5331_6, .ref f5331_7]))] [] _ _ := Bx.of (fun a => (κr5330 a).1) hL hP (fa_c hb5331 fa_n) (by simp only [List.map_cons, List.map_nil, hsu.1]; decide)
                refine b_putN (D := D) (ci := 6) (v := .ref q5329) (ty := .object "OneBeat$Formula") (C := RX6) (T := TX6) (N := 8) hx hb hts iX5_readStatement_6 tyX6 tyX6_ok nmX6 hown hN hB 0 rfl rfl 3 (by decide) (hN.f 44 rfl) (fun _ h9 => h9) rfl (by decide +kernel) rfl rfl (Nat.le_of_ble_eq_true rfl) (.inl rfl) dX5_readStatement_128 (fun H locs hB => ?_)
                have hB : Bx B0 D _ [((κ w).2.2.2, .inr (6, [.int (nI f5331_0), .int f5331_1, .int f5331_2, .ref q5329, .ref f5331_4, .ref f5331_5, .ref f5331_6, .ref f5331_7]))] [(κ w).2.2.2] _ _ := hB
                refine lv_iconst (v := 1) hx hb dX5_readStatement_131 (by decide) ?_
                have hF : Fr B0 [10, 11] κ H0 _ := hF.closeN hB (fa_c (fun h9 => by rw [← (hKF _ h9).2, hsu.2]; simp) fa_n)
                have hT : WT B0 D cs T (kp κr5330 (κ w).2.2.2 1 0) _ := hT.closeK (κ w).2.2.2 1 0 hB (by rw [hsu.1]; decide) (by rw [hsu.1]; decide) (List.mem_of_getElem? (i := 0) rfl) ⟨⟨0, _, rfl, kp_ok (ok_7 (k := ((κr5330 (κ w).2.2.2).1, (κr5330 (κ w).2.2.2).2.1, _, _)) hsu.1 ⟨_, _, _, _, _, _, _, _, rfl, (by omega), (Or.inr ⟨_, rfl, (t2kp hq5329)⟩), (Or.inr ⟨_, rfl⟩), ⟨(t2kp t5331_4).1, by rw [hsu.2]; exact (t2kp t5331_4).2⟩, ⟨(t2kp t5331_5).1, by rw [hsu.2]; exact (t2kp t5331_5).2⟩, ⟨(t2kp t5331_6).1, by rw [hsu.2]; exact (t2kp t5331_6).2⟩, ⟨(t2kp t5331_7).1, by rw [hsu.2]; exact (t2kp t5331_7).2⟩⟩)⟩, trivial⟩
                have hL : OkL B0 _ := hB.2.2.2.2.2
                have hsu := t2kp (x := 1) (y := 0) (a := (κ w).2.2.2) hsu
                refine W.know (fun hg => ?_)
                rw [hH0] at hg
                exact en_i hx hb hr hlocks hL rfl (show 3 ≤ 3 by omega) (show ((0 + 2) + 616) ≤ 618 by omega) dX5_readStatement_132 (⟨_, (fun a h1 h2 => (kp_n h2).trans (hKX a h1)), hT, hF, hsu, Or.inr ⟨hmg1, by rw [kp_a], hg.mono (by omega) (by omega)⟩, Or.inr rfl⟩)
            · refine va_getN (D := D) (ci := 6) (v := .ref a5324) (C := RX6) (T := TX6) (N := 8) hx hb hts iX5_readStatement_6 hown hN.1 hP 0 rfl rfl 3 (by decide) (hN.f 44 rfl) (fun _ h9 => h9) rfl dX5_readStatement_89 ?_
              refine lv_ifnonnull (tgt := 133) hx hb dX5_readStatement_92 (by decide) ?_
              refine lv_aload_n hx hb dX5_readStatement_133 rfl (lv_at hl 0 rfl) ?_
              refine lv_bipush (v := (-2)) hx hb dX5_readStatement_134 (by decide) ?_
              refine lv_aload_n hx hb dX5_readStatement_136 rfl (lv_at hl 0 rfl) ?_
              refine va_get (D := D) (ci := 5) (v := .int (nI f5322_5)) (C := RX5) (T := TX5) (N := 14) hx hb hts iX5_readStatement_5 hown hN.1 hP 1 rfl rfl 5 (by decide) (hts _ mX5_readStatement_7) (fun _ h9 => h9) rfl dX5_readStatement_137 ?_
              refine cv_i (As := [.int (-2), .int (nI f5322_5)]) (rest := []) (b := w) ⟨hx, hb, hml, hown, hts⟩ (c_X5_fail hT (w := w) hw (x := (-2)) (y := (nI f5322_5))) (cwV 2 hts gX5_readStatement_X5_fail rfl rfl rfl hdX5_fail_v ⟨Nat.le_of_ble_eq_true rfl, Nat.le_of_ble_eq_true rfl⟩) hN hE hL (rcv6 hN hT hw.1) rfl rfl hl.1 (Nat.le_of_ble_eq_true rfl) dX5_readStatement_140 (Nat.zero_le _) (Nat.zero_le _) (fun r5332 H1 locs hL hqr5332 => ?_)
              obtain ⟨hT1, hF1, hqr5332⟩ := hqr5332
              have hP : va_P D vwCl [((κ w).2.2.2, .inr (6, [.int (nI f5323_0), .int f5323_1, .int f5323_2, .ref a5324, .ref f5323_4, .ref f5323_5, .ref f5323_6, .ref f5323_7]))] _ := hF1.hP (hP.sub [0] rfl) (fa_c ⟨by rw [hsu.1]; decide, by rw [hsu.2]; first | decide | (simp; done) | (simp [h15a, h15b, h15c]; done) | (simp; omega)⟩ fa_n)
              have hF := hF.tr (hF1.mono (by simp))
              have hT := hT1
              obtain rfl := hqr5332
              refine W.know (fun hg => ?_)
              rw [hH0] at hg
              exact en_i hx hb hr hlocks hL rfl (Nat.zero_le _) (Nat.zero_le _) dX5_readStatement_143 (⟨_, (fun _ _ _ => rfl), hT, hF, hsu, Or.inl ⟨rfl, hg⟩, Or.inl rfl⟩)
        · refine lv_if_eq (tgt := 76) hx hb dX5_readStatement_58 (by decide) (fun c9 => absurd c9 (by decide)) (fun _ => ?_)
          refine lv_aload_n hx hb dX5_readStatement_61 rfl (lv_at hl 0 rfl) ?_
          obtain ⟨hb5333, e5333, hat5333, hk5333⟩ := hT.o6 hw.1
          obtain ⟨f5333_0, f5333_2, f5333_3, f5333_4, f5333_5, f5333_6, f5333_7, f5333_8, f5333_9, f5333_10, f5333_11, f5333_12, f5333_13, rfl, c5333_1, c5333_2, c5333_3, c5333_5, c5333_10, t5333_0, t5333_9, c5333_11, c5333_p2⟩ := hk5333
          obtain rfl : f5333_11 = .ref (κ w).2.2.2 := c5333_p2.resolve_left hs0
          have hP : va_P D vwCl [(w, .inr (5, [.ref f5333_0, .int (nI ((κ w).2.2.1)), .int (nI f5333_2), .int (nI f5333_3), .int f5333_4, .int (nI f5333_5), .int f5333_6, .int f5333_7, .int f5333_8, .ref f5333_9, .int (nI f5333_10), .ref (κ w).2.2.2, .int f5333_12, .int f5333_13]))] _ := va_P.cons hat5333 va_P.nil
          refine va_get (D := D) (ci := 5) (v := .ref (κ w).2.2.2) (C := RX5) (T := TX5) (N := 14) hx hb hts iX5_readStatement_5 hown hN.1 hP 0 rfl rfl 11 (by decide) (hts _ mX5_readStatement_1) (fun _ h9 => h9) rfl dX5_readStatement_62 ?_
          obtain ⟨hb5334, e5334, hat5334, hk5334⟩ := hT.o7 hsu.1
          obtain ⟨f5334_0, f5334_1, f5334_2, f5334_3, f5334_4, f5334_5, f5334_6, f5334_7, rfl, c5334_0, c5334_3, c5334_mg, t5334_4, t5334_5, t5334_6, t5334_7⟩ := hk5334
          rw [hsu.2] at t5334_4
          rw [hsu.2] at t5334_5
          rw [hsu.2] at t5334_6
          rw [hsu.2] at t5334_7
          have hP : va_P D vwCl [((κ w).2.2.2, .inr (6, [.int (nI f5334_0), .int f5334_1, .int f5334_2, f5334_3, .ref f5334_4, .ref f5334_5, .ref f5334_6, .ref f5334_7])), (w, .inr (5, [.ref f5333_0, .int (nI ((κ w).2.2.1)), .int (nI f5333_2), .int (nI f5333_3), .int f5333_4, .int (nI f5333_5), .int f5333_6, .int f5333_7, .int f5333_8, .ref f5333_9, .int (nI f5333_10), .ref (κ w).2.2.2, .int f5333_12, .int f5333_13]))] _ := va_P.cons hat5334 hP
          refine va_getN (D := D) (ci := 6) (v := .int f5334_2) (C := RX6) (T := TX6) (N := 8) hx hb hts iX5_readStatement_6 hown hN.1 hP 0 rfl rfl 2 (by decide) (hN.f 42 rfl) (fun _ h9 => h9) rfl dX5_readStatement_65 ?_
          refine lv_if_ne (tgt := 76) hx hb dX5_readStatement_68 (by decide) (fun c5335 => ?_) (fun c5335 => ?_)
          · refine lv_aload_n hx hb dX5_readStatement_76 rfl (lv_at hl 0 rfl) ?_
            refine va_ldcS hx hb hown (hN.s 6 rfl) dX5_readStatement_77 ?_
            refine cv_i (As := [.ref (cs 106)]) (rest := []) (b := w) ⟨hx, hb, hml, hown, hts⟩ (c_X5_isWord hT (w := w) hw (i := 6) (by decide)) (cwV 1 hts gX5_readStatement_X5_isWord rfl rfl rfl hdX5_isWord_v ⟨Nat.le_of_ble_eq_true rfl, Nat.le_of_ble_eq_true rfl⟩) hN hE hL (rcv6 hN hT hw.1) rfl rfl hl.1 (Nat.le_of_ble_eq_true rfl) dX5_readStatement_79 (Nat.zero_le _) (Nat.zero_le _) (fun r5336 H1 locs hL hqr5336 => ?_)
            obtain ⟨h9, hqr5336⟩ := hqr5336; replace h9 := h9.symm; subst h9
            rcases hqr5336 with rfl | rfl
            · refine lv_if_eq (tgt := 133) hx hb dX5_readStatement_82 (by decide) (fun _ => ?_) (fun c9 => absurd (by decide) c9)
              refine lv_aload_n hx hb dX5_readStatement_133 rfl (lv_at hl 0 rfl) ?_
              refine lv_bipush (v := (-2)) hx hb dX5_readStatement_134 (by decide) ?_
              refine lv_aload_n hx hb dX5_readStatement_136 rfl (lv_at hl 0 rfl) ?_
              refine va_get (D := D) (ci := 5) (v := .int (nI f5333_5)) (C := RX5) (T := TX5) (N := 14) hx hb hts iX5_readStatement_5 hown hN.1 hP 1 rfl rfl 5 (by decide) (hts _ mX5_readStatement_7) (fun _ h9 => h9) rfl dX5_readStatement_137 ?_
              refine cv_i (As := [.int (-2), .int (nI f5333_5)]) (rest := []) (b := w) ⟨hx, hb, hml, hown, hts⟩ (c_X5_fail hT (w := w) hw (x := (-2)) (y := (nI f5333_5))) (cwV 2 hts gX5_readStatement_X5_fail rfl rfl rfl hdX5_fail_v ⟨Nat.le_of_ble_eq_true rfl, Nat.le_of_ble_eq_true rfl⟩) hN hE hL (rcv6 hN hT hw.1) rfl rfl hl.1 (Nat.le_of_ble_eq_true rfl) dX5_readStatement_140 (Nat.zero_le _) (Nat.zero_le _) (fun r5337 H1 locs hL hqr5337 => ?_)
              obtain ⟨hT1, hF1, hqr5337⟩ := hqr5337
              have hP : va_P D vwCl [((κ w).2.2.2, .inr (6, [.int (nI f5334_0), .int f5334_1, .int f5334_2, f5334_3, .ref f5334_4, .ref f5334_5, .ref f5334_6, .ref f5334_7]))] _ := hF1.hP (hP.sub [0] rfl) (fa_c ⟨by rw [hsu.1]; decide, by rw [hsu.2]; first | decide | (simp; done) | (simp [h15a, h15b, h15c]; done) | (simp; omega)⟩ fa_n)
              have hF := hF.tr (hF1.mono (by simp))
              have hT := hT1
              obtain rfl := hqr5337
              refine W.know (fun hg => ?_)
              rw [hH0] at hg
              exact en_i hx hb hr hlocks hL rfl (Nat.zero_le _) (Nat.zero_le _) dX5_readStatement_143 (⟨_, (fun _ _ _ => rfl), hT, hF, hsu, Or.inl ⟨rfl, hg⟩, Or.inl rfl⟩)
            · refine lv_if_eq (tgt := 133) hx hb dX5_readStatement_82 (by decide) (fun c9 => absurd c9 (by decide)) (fun _ => ?_)
              refine lv_aload_n hx hb dX5_readStatement_85 rfl (lv_at hl 0 rfl) ?_
              refine va_get (D := D) (ci := 5) (v := .ref (κ w).2.2.2) (C := RX5) (T := TX5) (N := 14) hx hb hts iX5_readStatement_5 hown hN.1 hP 1 rfl rfl 11 (by decide) (hts _ mX5_readStatement_1) (fun _ h9 => h9) rfl dX5_readStatement_86 ?_
              rcases c5334_3 with rfl | ⟨a5338, rfl, ta5338⟩
              · refine va_getN (D := D) (ci := 6) (v := .null) (C := RX6) (T := TX6) (N := 8) hx hb hts iX5_readStatement_6 hown hN.1 hP 0 rfl rfl 3 (by decide) (hN.f 44 rfl) (fun _ h9 => h9) rfl dX5_readStatement_89 ?_
                refine lv_ifnonnullN hx hb dX5_readStatement_92 ?_
                have hmg1 : (κ (κ w).2.2.2).2.2.1 ≠ 1 := (c5334_mg).resolve_right (by rintro ⟨_, h9⟩; cases h9)
                refine lv_aload_n hx hb dX5_readStatement_95 rfl (lv_at hl 0 rfl) ?_
                refine cv_v (As := []) (rest := []) (b := w) ⟨hx, hb, hml, hown, hts⟩ (c_X5_step hT (w := w) hw) (cwV 0 hts gX5_readStatement_X5_step rfl rfl rfl hdX5_step_v ⟨Nat.le_of_ble_eq_true rfl, Nat.le_of_ble_eq_true rfl⟩) hN hE hL (rcv6 hN hT hw.1) rfl rfl hl.1 (Nat.le_of_ble_eq_true rfl) dX5_readStatement_96 (Nat.zero_le _) (Nat.zero_le _) (fun H1 locs hL hqr5339 => ?_)
                obtain ⟨hT1, hF1, hqr5339⟩ := hqr5339
                have hP : va_P D vwCl [((κ w).2.2.2, .inr (6, [.int (nI f5334_0), .int f5334_1, .int f5334_2, .null, .ref f5334_4, .ref f5334_5, .ref f5334_6, .ref f5334_7]))] _ := hF1.hP (hP.sub [0] rfl) (fa_c ⟨by rw [hsu.1]; decide, by rw [hsu.2]; first | decide | (simp; done) | (simp [h15a, h15b, h15c]; done) | (simp; omega)⟩ fa_n)
                have hF := hF.tr (hF1.mono (by simp))
                have hT := hT1
                have f5340 := hqr5339
                refine lv_aload_n hx hb dX5_readStatement_99 rfl (lv_at hl 0 rfl) ?_
                refine lv_iconst (v := 0) hx hb dX5_readStatement_100 (by decide) ?_
                refine cv_i (As := [.int 0]) (rest := []) (b := w) ⟨hx, hb, hml, hown, hts⟩ (c_X5_readSum_d0 hT (w := w) hw) (cwV 1 hts gX5_readStatement_X5_readSum rfl rfl rfl hdX5_readSum_v ⟨Nat.le_of_ble_eq_true rfl, Nat.le_of_ble_eq_true rfl⟩) hN hE hL (rcv6 hN hT hw.1) rfl rfl hl.1 (Nat.le_of_ble_eq_true rfl) dX5_readStatement_101 (Nat.zero_le _) (Nat.zero_le _) (fun r5341 H1 locs hL hqr5341 => ?_)
                obtain ⟨hT1, hF1, hqr5341⟩ := hqr5341
                have hP : va_P D vwCl [((κ w).2.2.2, .inr (6, [.int (nI f5334_0), .int f5334_1, .int f5334_2, .null, .ref f5334_4, .ref f5334_5, .ref f5334_6, .ref f5334_7]))] _ := hF1.hP (hP.sub [0] rfl) (fa_c ⟨by rw [hsu.1]; decide, by rw [hsu.2]; first | decide | (simp; done) | (simp [h15a, h15b, h15c]; done) | (simp; omega)⟩ fa_n)
                have hF := hF.tr (hF1.mono (by simp))
                have hT := hT1
                rcases hqr5341 with rfl | rfl
                · refine lv_if_ne (tgt := 109) hx hb dX5_readStatement_104 (by decide) (fun c9 => absurd (by decide) c9) (fun _ => ?_)
                  refine lv_iconst (v := 0) hx hb dX5_readStatement_107 (by decide) ?_
                  refine W.know (fun hg => ?_)
                  rw [hH0] at hg
                  exact en_i hx hb hr hlocks hL rfl (Nat.zero_le _) (Nat.zero_le _) dX5_readStatement_108 (⟨_, (fun _ _ _ => rfl), hT, hF, hsu, Or.inl ⟨rfl, hg⟩, Or.inl rfl⟩)
                · refine lv_if_ne (tgt := 109) hx hb dX5_readStatement_104 (by decide) (fun _ => ?_) (fun c9 => absurd c9 (by decide))
                  refine lv_aload_n hx hb dX5_readStatement_109 rfl (lv_at hl 0 rfl) ?_
                  obtain ⟨hb5342, e5342, hat5342, hk5342⟩ := hT.o6 hw.1
                  obtain ⟨f5342_0, f5342_2, f5342_3, f5342_4, f5342_5, f5342_6, f5342_7, f5342_8, f5342_9, f5342_10, f5342_11, f5342_12, f5342_13, rfl, c5342_1, c5342_2, c5342_3, c5342_5, c5342_10, t5342_0, t5342_9, c5342_11, c5342_p2⟩ := hk5342
                  obtain rfl : f5342_11 = .ref (κ w).2.2.2 := c5342_p2.resolve_left hs0
                  have hP : va_P D vwCl [(w, .inr (5, [.ref f5342_0, .int (nI ((κ w).2.2.1)), .int (nI f5342_2), .int (nI f5342_3), .int f5342_4, .int (nI f5342_5), .int f5342_6, .int f5342_7, .int f5342_8, .ref f5342_9, .int (nI f5342_10), .ref (κ w).2.2.2, .int f5342_12, .int f5342_13])), ((κ w).2.2.2, .inr (6, [.int (nI f5334_0), .int f5334_1, .int f5334_2, .null, .ref f5334_4, .ref f5334_5, .ref f5334_6, .ref f5334_7]))] _ := va_P.cons hat5342 hP
                  refine va_get (D := D) (ci := 5) (v := .ref (κ w).2.2.2) (C := RX5) (T := TX5) (N := 14) hx hb hts iX5_readStatement_5 hown hN.1 hP 0 rfl rfl 11 (by decide) (hts _ mX5_readStatement_1) (fun _ h9 => h9) rfl dX5_readStatement_110 ?_
                  have hb0 : B0 ≤ _ := hT.b0 hw (by decide)
                  have hB : Bx B0 D _ [(w, .inr (5, [.ref f5342_0, .int (nI ((κ w).2.2.1)), .int (nI f5342_2), .int (nI f5342_3), .int f5342_4, .int (nI f5342_5), .int f5342_6, .int f5342_7, .int f5342_8, .ref f5342_9, .int (nI f5342_10), .ref (κ w).2.2.2, .int f5342_12, .int f5342_13])), ((κ w).2.2.2, .inr (6, [.int (nI f5334_0), .int f5334_1, .int f5334_2, .null, .ref f5334_4, .ref f5334_5, .ref f5334_6, .ref f5334_7]))] [] _ _ := Bx.of (fun a => (κ a).1) hL hP (fa_c hb5342 (fa_c hb5334 fa_n)) (by simp only [List.map_cons, List.map_nil, hw.1, hsu.1]; decide)
                  refine nw_o (ci := 0) (fs := [.null, .null]) (C := RX0) (T := TX0) (N := 2) hx hb hts iX5_readStatement_0 tyX0 tyX0_ok hown (hts _ mX5_readStatement_2) (hts _ mX5_readStatement_3) (hts _ mX5_readStatement_4) hN rfl dfl0 (show 0 + 1 ≤ 3 by omega) (show 0 + 2 ≤ 618 by omega) dX5_readStatement_113 (fun q5343 H heq5343 hzq5343 hoq5343 hatq5343 => ?_)
                  have hgeq5343 : _ ≤ q5343 := Nat.le_trans hB.2.2.1 (Nat.le_of_eq heq5343.symm)
                  have hbq5343 : B0 ≤ q5343 := Nat.le_trans hb0 hgeq5343
                  have hfq5343 : (κ q5343).1 = 0 := hT.fresh hgeq5343
                  have hB := hB.nw heq5343 hzq5343 hoq5343 hatq5343 hb0
                  have hB : Bx B0 D _ [(w, .inr (5, [.ref f5342_0, .int (nI ((κ w).2.2.1)), .int (nI f5342_2), .int (nI f5342_3), .int f5342_4, .int (nI f5342_5), .int f5342_6, .int f5342_7, .int f5342_8, .ref f5342_9, .int (nI f5342_10), .ref (κ w).2.2.2, .int f5342_12, .int f5342_13])), ((κ w).2.2.2, .inr (6, [.int (nI f5334_0), .int f5334_1, .int f5334_2, .null, .ref f5334_4, .ref f5334_5, .ref f5334_6, .ref f5334_7])), (q5343, .inr (0, [.null, .null]))] [] _ _ := hB
                  refine lv_dup hx hb dX5_readStatement_116 rfl ?_
                  refine lv_aload_n hx hb dX5_readStatement_117 rfl (lv_at hl 0 rfl) ?_
                  refine va_get (D := D) (ci := 5) (v := .ref f5342_9) (C := RX5) (T := TX5) (N := 14) hx hb hts iX5_readStatement_5 hown hN.1 hB.1 0 rfl rfl 9 (by decide) (hts _ mX5_readStatement_5) (fun _ h9 => h9) rfl dX5_readStatement_118 ?_
                  refine lv_aload_n hx hb dX5_readStatement_121 rfl (lv_at hl 0 rfl) ?_
                  refine va_get (D := D) (ci := 5) (v := .int (nI f5342_10)) (C := RX5) (T := TX5) (N := 14) hx hb hts iX5_readStatement_5 hown hN.1 hB.1 0 rfl rfl 10 (by decide) (hts _ mX5_readStatement_6) (fun _ h9 => h9) rfl dX5_readStatement_122 ?_
                  have hT : WT B0 D cs T κ _ := hT.close hB trivial
                  have hF : Fr B0 [10, 11] κ H0 _ := hF.close hB fa_n
                  have hL : OkL B0 _ := hB.2.2.2.2.2
                  have hP : va_P D vwCl [(w, .inr (5, [.ref f5342_0, .int (nI ((κ w).2.2.1)), .int (nI f5342_2), .int (nI f5342_3), .int f5342_4, .int (nI f5342_5), .int f5342_6, .int f5342_7, .int f5342_8, .ref f5342_9, .int (nI f5342_10), .ref (κ w).2.2.2, .int f5342_12, .int f5342_13])), ((κ w).2.2.2, .inr (6, [.int (nI f5334_0), .int f5334_1, .int f5334_2, .null, .ref f5334_4, .ref f5334_5, .ref f5334_6, .ref f5334_7])), (q5343, .inr (0, [.null, .null]))] _ := hB.1
                  refine ci_v (As := [.ref f5342_9, .int (nI f5342_10)]) (rest := [.ref q5343, .ref (κ w).2.2.2]) (b := q5343) ⟨hx, hb, hml, hown, hts⟩ (c_X0_init hT (w := q5343) hfq5343 hbq5343 (hP 2 _ rfl) (v := f5342_9) t5342_9 (n := f5342_10) (by first | omega | decide | assumption)) (cwI 2 hts gX5_readStatement_X0_init rfl rfl rfl (hts _ mX5_readStatement_4) (hts _ mX5_readStatement_156) (hts _ mX5_readStatement_157) rfl hdX0_init_o ⟨Nat.le_of_ble_eq_true rfl, Nat.le_of_ble_eq_true rfl⟩) hN hE hL rfl rfl hl.1 (Nat.le_of_ble_eq_true rfl) dX5_readStatement_125 (show 1 + 2 ≤ 3 by omega) (show (0 + 2) + 616 ≤ 618 by omega) (fun H1 locs hL hqr5344 => ?_)
                  obtain ⟨κr5344, hxr5344, hT1, hF1, hqr5344⟩ := hqr5344
                  have hF := hF.tr (hF1.mono (by simp))
                  have hT := hT1
                  have hKF : KF κ κr5344 := hxr5344.f
                  have hKX : KX κ κr5344 := hxr5344
                  have hw := (hxr5344.f.t2 hw (by decide))
                  have hsu := (hxr5344.f.t2 hsu (by decide))
                  have hq5343 := hqr5344
                  obtain ⟨hb5345, e5345, hat5345, hk5345⟩ := hT.o7 hsu.1
                  obtain ⟨f5345_0, f5345_1, f5345_2, f5345_3, f5345_4, f5345_5, f5345_6, f5345_7, rfl, c5345_0, c5345_3, c5345_mg, t5345_4, t5345_5, t5345_6, t5345_7⟩ := hk5345
                  rw [hsu.2] at t5345_4
                  rw [hsu.2] at t5345_5
                  rw [hsu.2] at t5345_6
                  rw [hsu.2] at t5345_7
                  have hP : va_P D vwCl [((κ w).2.2.2, .inr (6, [.int (nI f5345_0), .int f5345_1, .int f5345_2, f5345_3, .ref f5345_4, .ref f5345_5, .ref f5345_6, .ref f5345_7]))] _ := va_P.cons hat5345 va_P.nil
                  have hB : Bx B0 D _ [((κ w).2.2.2, .inr (6, [.int (nI f5345_0), .int f5345_1, .int f5345_2, f5345_3, .ref f5345_4, .ref f5345_5, .ref f5345_6, .ref f5345_7]))] [] _ _ := Bx.of (fun a => (κr5344 a).1) hL hP (fa_c hb5345 fa_n) (by simp only [List.map_cons, List.map_nil, hsu.1]; decide)
                  refine b_putN (D := D) (ci := 6) (v := .ref q5343) (ty := .object "OneBeat$Formula") (C := RX6) (T := TX6) (N := 8) hx hb hts iX5_readStatement_6 tyX6 tyX6_ok nmX6 hown hN hB 0 rfl rfl 3 (by decide) (hN.f 44 rfl) (fun _ h9 => h9) rfl (by decide +kernel) rfl rfl (Nat.le_of_ble_eq_true rfl) (.inl rfl) dX5_readStatement_128 (fun H locs hB => ?_)
                  have hB : Bx B0 D _ [((κ w).2.2.2, .inr (6, [.int (nI f5345_0), .int f5345_1, .int f5345_2, .ref q5343, .ref f5345_4, .ref f5345_5, .ref f5345_6, .ref f5345_7]))] [(κ w).2.2.2] _ _ := hB
                  refine lv_iconst (v := 1) hx hb dX5_readStatement_131 (by decide) ?_
                  have hF : Fr B0 [10, 11] κ H0 _ := hF.closeN hB (fa_c (fun h9 => by rw [← (hKF _ h9).2, hsu.2]; simp) fa_n)
                  have hT : WT B0 D cs T (kp κr5344 (κ w).2.2.2 1 0) _ := hT.closeK (κ w).2.2.2 1 0 hB (by rw [hsu.1]; decide) (by rw [hsu.1]; decide) (List.mem_of_getElem? (i := 0) rfl) ⟨⟨0, _, rfl, kp_ok (ok_7 (k := ((κr5344 (κ w).2.2.2).1, (κr5344 (κ w).2.2.2).2.1, _, _)) hsu.1 ⟨_, _, _, _, _, _, _, _, rfl, (by omega), (Or.inr ⟨_, rfl, (t2kp hq5343)⟩), (Or.inr ⟨_, rfl⟩), ⟨(t2kp t5345_4).1, by rw [hsu.2]; exact (t2kp t5345_4).2⟩, ⟨(t2kp t5345_5).1, by rw [hsu.2]; exact (t2kp t5345_5).2⟩, ⟨(t2kp t5345_6).1, by rw [hsu.2]; exact (t2kp t5345_6).2⟩, ⟨(t2kp t5345_7).1, by rw [hsu.2]; exact (t2kp t5345_7).2⟩⟩)⟩, trivial⟩
                  have hL : OkL B0 _ := hB.2.2.2.2.2
                  have hsu := t2kp (x := 1) (y := 0) (a := (κ w).2.2.2) hsu
                  refine W.know (fun hg => ?_)
                  rw [hH0] at hg
                  exact en_i hx hb hr hlocks hL rfl (show 3 ≤ 3 by omega) (show ((0 + 2) + 616) ≤ 618 by omega) dX5_readStatement_132 (⟨_, (fun a h1 h2 => (kp_n h2).trans (hKX a h1)), hT, hF, hsu, Or.inr ⟨hmg1, by rw [kp_a], hg.mono (by omega) (by omega)⟩, Or.inr rfl⟩)
              · refine va_getN (D := D) (ci := 6) (v := .ref a5338) (C := RX6) (T := TX6) (N := 8) hx hb hts iX5_readStatement_6 hown hN.1 hP 0 rfl rfl 3 (by decide) (hN.f 44 rfl) (fun _ h9 => h9) rfl dX5_readStatement_89 ?_
                refine lv_ifnonnull (tgt := 133) hx hb dX5_readStatement_92 (by decide) ?_
                refine lv_aload_n hx hb dX5_readStatement_133 rfl (lv_at hl 0 rfl) ?_
                refine lv_bipush (v := (-2)) hx hb dX5_readStatement_134 (by decide) ?_
                refine lv_aload_n hx hb dX5_readStatement_136 rfl (lv_at hl 0 rfl) ?_
                refine va_get (D := D) (ci := 5) (v := .int (nI f5333_5)) (C := RX5) (T := TX5) (N := 14) hx hb hts iX5_readStatement_5 hown hN.1 hP 1 rfl rfl 5 (by decide) (hts _ mX5_readStatement_7) (fun _ h9 => h9) rfl dX5_readStatement_137 ?_
                refine cv_i (As := [.int (-2), .int (nI f5333_5)]) (rest := []) (b := w) ⟨hx, hb, hml, hown, hts⟩ (c_X5_fail hT (w := w) hw (x := (-2)) (y := (nI f5333_5))) (cwV 2 hts gX5_readStatement_X5_fail rfl rfl rfl hdX5_fail_v ⟨Nat.le_of_ble_eq_true rfl, Nat.le_of_ble_eq_true rfl⟩) hN hE hL (rcv6 hN hT hw.1) rfl rfl hl.1 (Nat.le_of_ble_eq_true rfl) dX5_readStatement_140 (Nat.zero_le _) (Nat.zero_le _) (fun r5346 H1 locs hL hqr5346 => ?_)
                obtain ⟨hT1, hF1, hqr5346⟩ := hqr5346
                have hP : va_P D vwCl [((κ w).2.2.2, .inr (6, [.int (nI f5334_0), .int f5334_1, .int f5334_2, .ref a5338, .ref f5334_4, .ref f5334_5, .ref f5334_6, .ref f5334_7]))] _ := hF1.hP (hP.sub [0] rfl) (fa_c ⟨by rw [hsu.1]; decide, by rw [hsu.2]; first | decide | (simp; done) | (simp [h15a, h15b, h15c]; done) | (simp; omega)⟩ fa_n)
                have hF := hF.tr (hF1.mono (by simp))
                have hT := hT1
                obtain rfl := hqr5346
                refine W.know (fun hg => ?_)
                rw [hH0] at hg
                exact en_i hx hb hr hlocks hL rfl (Nat.zero_le _) (Nat.zero_le _) dX5_readStatement_143 (⟨_, (fun _ _ _ => rfl), hT, hF, hsu, Or.inl ⟨rfl, hg⟩, Or.inl rfl⟩)
          · refine lv_aload_n hx hb dX5_readStatement_71 rfl (lv_at hl 0 rfl) ?_
            refine cv_i (As := []) (rest := []) (b := w) ⟨hx, hb, hml, hown, hts⟩ (c_X5_readPatience hT (w := w) hw (by first | omega | decide | assumption) (by first | omega | decide | assumption)) (cwV 0 hts gX5_readStatement_X5_readPatience rfl rfl rfl hdX5_readPatience_v ⟨Nat.le_of_ble_eq_true rfl, Nat.le_of_ble_eq_true rfl⟩) hN hE hL (rcv6 hN hT hw.1) rfl rfl hl.1 (Nat.le_of_ble_eq_true rfl) dX5_readStatement_72 (Nat.zero_le _) (Nat.zero_le _) (fun r5347 H1 locs hL hqr5347 => ?_)
            obtain ⟨hT1, hF1, hqr5347⟩ := hqr5347
            have hF := hF.tr (hF1.mono (by simp))
            have hT := hT1
            rcases hqr5347 with rfl | rfl
            · refine W.know (fun hg => ?_)
              rw [hH0] at hg
              exact en_i hx hb hr hlocks hL rfl (Nat.zero_le _) (Nat.zero_le _) dX5_readStatement_75 (⟨_, (fun _ _ _ => rfl), hT, hF, hsu, Or.inl ⟨rfl, hg⟩, Or.inl rfl⟩)
            · refine W.know (fun hg => ?_)
              rw [hH0] at hg
              exact en_i hx hb hr hlocks hL rfl (Nat.zero_le _) (Nat.zero_le _) dX5_readStatement_75 (⟨_, (fun _ _ _ => rfl), hT, hF, hsu, Or.inl ⟨rfl, hg⟩, Or.inr rfl⟩)
      · refine lv_if_eq (tgt := 52) hx hb dX5_readStatement_34 (by decide) (fun c9 => absurd c9 (by decide)) (fun _ => ?_)
        refine lv_aload_n hx hb dX5_readStatement_37 rfl (lv_at hl 0 rfl) ?_
        obtain ⟨hb5348, e5348, hat5348, hk5348⟩ := hT.o6 hw.1
        obtain ⟨f5348_0, f5348_2, f5348_3, f5348_4, f5348_5, f5348_6, f5348_7, f5348_8, f5348_9, f5348_10, f5348_11, f5348_12, f5348_13, rfl, c5348_1, c5348_2, c5348_3, c5348_5, c5348_10, t5348_0, t5348_9, c5348_11, c5348_p2⟩ := hk5348
        obtain rfl : f5348_11 = .ref (κ w).2.2.2 := c5348_p2.resolve_left hs0
        have hP : va_P D vwCl [(w, .inr (5, [.ref f5348_0, .int (nI ((κ w).2.2.1)), .int (nI f5348_2), .int (nI f5348_3), .int f5348_4, .int (nI f5348_5), .int f5348_6, .int f5348_7, .int f5348_8, .ref f5348_9, .int (nI f5348_10), .ref (κ w).2.2.2, .int f5348_12, .int f5348_13]))] _ := va_P.cons hat5348 va_P.nil
        refine va_get (D := D) (ci := 5) (v := .ref (κ w).2.2.2) (C := RX5) (T := TX5) (N := 14) hx hb hts iX5_readStatement_5 hown hN.1 hP 0 rfl rfl 11 (by decide) (hts _ mX5_readStatement_1) (fun _ h9 => h9) rfl dX5_readStatement_38 ?_
        obtain ⟨hb5349, e5349, hat5349, hk5349⟩ := hT.o7 hsu.1
        obtain ⟨f5349_0, f5349_1, f5349_2, f5349_3, f5349_4, f5349_5, f5349_6, f5349_7, rfl, c5349_0, c5349_3, c5349_mg, t5349_4, t5349_5, t5349_6, t5349_7⟩ := hk5349
        rw [hsu.2] at t5349_4
        rw [hsu.2] at t5349_5
        rw [hsu.2] at t5349_6
        rw [hsu.2] at t5349_7
        have hP : va_P D vwCl [((κ w).2.2.2, .inr (6, [.int (nI f5349_0), .int f5349_1, .int f5349_2, f5349_3, .ref f5349_4, .ref f5349_5, .ref f5349_6, .ref f5349_7])), (w, .inr (5, [.ref f5348_0, .int (nI ((κ w).2.2.1)), .int (nI f5348_2), .int (nI f5348_3), .int f5348_4, .int (nI f5348_5), .int f5348_6, .int f5348_7, .int f5348_8, .ref f5348_9, .int (nI f5348_10), .ref (κ w).2.2.2, .int f5348_12, .int f5348_13]))] _ := va_P.cons hat5349 hP
        refine va_getN (D := D) (ci := 6) (v := .int f5349_1) (C := RX6) (T := TX6) (N := 8) hx hb hts iX5_readStatement_6 hown hN.1 hP 0 rfl rfl 1 (by decide) (hN.f 40 rfl) (fun _ h9 => h9) rfl dX5_readStatement_41 ?_
        refine lv_if_ne (tgt := 52) hx hb dX5_readStatement_44 (by decide) (fun c5350 => ?_) (fun c5350 => ?_)
        · refine lv_aload_n hx hb dX5_readStatement_52 rfl (lv_at hl 0 rfl) ?_
          refine va_ldcS hx hb hown (hN.s 5 rfl) dX5_readStatement_53 ?_
          refine cv_i (As := [.ref (cs 105)]) (rest := []) (b := w) ⟨hx, hb, hml, hown, hts⟩ (c_X5_isWord hT (w := w) hw (i := 5) (by decide)) (cwV 1 hts gX5_readStatement_X5_isWord rfl rfl rfl hdX5_isWord_v ⟨Nat.le_of_ble_eq_true rfl, Nat.le_of_ble_eq_true rfl⟩) hN hE hL (rcv6 hN hT hw.1) rfl rfl hl.1 (Nat.le_of_ble_eq_true rfl) dX5_readStatement_55 (Nat.zero_le _) (Nat.zero_le _) (fun r5351 H1 locs hL hqr5351 => ?_)
          obtain ⟨h9, hqr5351⟩ := hqr5351; replace h9 := h9.symm; subst h9
          rcases hqr5351 with rfl | rfl
          · refine lv_if_eq (tgt := 76) hx hb dX5_readStatement_58 (by decide) (fun _ => ?_) (fun c9 => absurd (by decide) c9)
            refine lv_aload_n hx hb dX5_readStatement_76 rfl (lv_at hl 0 rfl) ?_
            refine va_ldcS hx hb hown (hN.s 6 rfl) dX5_readStatement_77 ?_
            refine cv_i (As := [.ref (cs 106)]) (rest := []) (b := w) ⟨hx, hb, hml, hown, hts⟩ (c_X5_isWord hT (w := w) hw (i := 6) (by decide)) (cwV 1 hts gX5_readStatement_X5_isWord rfl rfl rfl hdX5_isWord_v ⟨Nat.le_of_ble_eq_true rfl, Nat.le_of_ble_eq_true rfl⟩) hN hE hL (rcv6 hN hT hw.1) rfl rfl hl.1 (Nat.le_of_ble_eq_true rfl) dX5_readStatement_79 (Nat.zero_le _) (Nat.zero_le _) (fun r5352 H1 locs hL hqr5352 => ?_)
            obtain ⟨h9, hqr5352⟩ := hqr5352; replace h9 := h9.symm; subst h9
            rcases hqr5352 with rfl | rfl
            · refine lv_if_eq (tgt := 133) hx hb dX5_readStatement_82 (by decide) (fun _ => ?_) (fun c9 => absurd (by decide) c9)
              refine lv_aload_n hx hb dX5_readStatement_133 rfl (lv_at hl 0 rfl) ?_
              refine lv_bipush (v := (-2)) hx hb dX5_readStatement_134 (by decide) ?_
              refine lv_aload_n hx hb dX5_readStatement_136 rfl (lv_at hl 0 rfl) ?_
              refine va_get (D := D) (ci := 5) (v := .int (nI f5348_5)) (C := RX5) (T := TX5) (N := 14) hx hb hts iX5_readStatement_5 hown hN.1 hP 1 rfl rfl 5 (by decide) (hts _ mX5_readStatement_7) (fun _ h9 => h9) rfl dX5_readStatement_137 ?_
              refine cv_i (As := [.int (-2), .int (nI f5348_5)]) (rest := []) (b := w) ⟨hx, hb, hml, hown, hts⟩ (c_X5_fail hT (w := w) hw (x := (-2)) (y := (nI f5348_5))) (cwV 2 hts gX5_readStatement_X5_fail rfl rfl rfl hdX5_fail_v ⟨Nat.le_of_ble_eq_true rfl, Nat.le_of_ble_eq_true rfl⟩) hN hE hL (rcv6 hN hT hw.1) rfl rfl hl.1 (Nat.le_of_ble_eq_true rfl) dX5_readStatement_140 (Nat.zero_le _) (Nat.zero_le _) (fun r5353 H1 locs hL hqr5353 => ?_)
              obtain ⟨hT1, hF1, hqr5353⟩ := hqr5353
              have hP : va_P D vwCl [((κ w).2.2.2, .inr (6, [.int (nI f5349_0), .int f5349_1, .int f5349_2, f5349_3, .ref f5349_4, .ref f5349_5, .ref f5349_6, .ref f5349_7]))] _ := hF1.hP (hP.sub [0] rfl) (fa_c ⟨by rw [hsu.1]; decide, by rw [hsu.2]; first | decide | (simp; done) | (simp [h15a, h15b, h15c]; done) | (simp; omega)⟩ fa_n)
              have hF := hF.tr (hF1.mono (by simp))
              have hT := hT1
              obtain rfl := hqr5353
              refine W.know (fun hg => ?_)
              rw [hH0] at hg
              exact en_i hx hb hr hlocks hL rfl (Nat.zero_le _) (Nat.zero_le _) dX5_readStatement_143 (⟨_, (fun _ _ _ => rfl), hT, hF, hsu, Or.inl ⟨rfl, hg⟩, Or.inl rfl⟩)
            · refine lv_if_eq (tgt := 133) hx hb dX5_readStatement_82 (by decide) (fun c9 => absurd c9 (by decide)) (fun _ => ?_)
              refine lv_aload_n hx hb dX5_readStatement_85 rfl (lv_at hl 0 rfl) ?_
              refine va_get (D := D) (ci := 5) (v := .ref (κ w).2.2.2) (C := RX5) (T := TX5) (N := 14) hx hb hts iX5_readStatement_5 hown hN.1 hP 1 rfl rfl 11 (by decide) (hts _ mX5_readStatement_1) (fun _ h9 => h9) rfl dX5_readStatement_86 ?_
              rcases c5349_3 with rfl | ⟨a5354, rfl, ta5354⟩
              · refine va_getN (D := D) (ci := 6) (v := .null) (C := RX6) (T := TX6) (N := 8) hx hb hts iX5_readStatement_6 hown hN.1 hP 0 rfl rfl 3 (by decide) (hN.f 44 rfl) (fun _ h9 => h9) rfl dX5_readStatement_89 ?_
                refine lv_ifnonnullN hx hb dX5_readStatement_92 ?_
                have hmg1 : (κ (κ w).2.2.2).2.2.1 ≠ 1 := (c5349_mg).resolve_right (by rintro ⟨_, h9⟩; cases h9)
                refine lv_aload_n hx hb dX5_readStatement_95 rfl (lv_at hl 0 rfl) ?_
                refine cv_v (As := []) (rest := []) (b := w) ⟨hx, hb, hml, hown, hts⟩ (c_X5_step hT (w := w) hw) (cwV 0 hts gX5_readStatement_X5_step rfl rfl rfl hdX5_step_v ⟨Nat.le_of_ble_eq_true rfl, Nat.le_of_ble_eq_true rfl⟩) hN hE hL (rcv6 hN hT hw.1) rfl rfl hl.1 (Nat.le_of_ble_eq_true rfl) dX5_readStatement_96 (Nat.zero_le _) (Nat.zero_le _) (fun H1 locs hL hqr5355 => ?_)
                obtain ⟨hT1, hF1, hqr5355⟩ := hqr5355
                have hP : va_P D vwCl [((κ w).2.2.2, .inr (6, [.int (nI f5349_0), .int f5349_1, .int f5349_2, .null, .ref f5349_4, .ref f5349_5, .ref f5349_6, .ref f5349_7]))] _ := hF1.hP (hP.sub [0] rfl) (fa_c ⟨by rw [hsu.1]; decide, by rw [hsu.2]; first | decide | (simp; done) | (simp [h15a, h15b, h15c]; done) | (simp; omega)⟩ fa_n)
                have hF := hF.tr (hF1.mono (by simp))
                have hT := hT1
                have f5356 := hqr5355
                refine lv_aload_n hx hb dX5_readStatement_99 rfl (lv_at hl 0 rfl) ?_
                refine lv_iconst (v := 0) hx hb dX5_readStatement_100 (by decide) ?_
                refine cv_i (As := [.int 0]) (rest := []) (b := w) ⟨hx, hb, hml, hown, hts⟩ (c_X5_readSum_d0 hT (w := w) hw) (cwV 1 hts gX5_readStatement_X5_readSum rfl rfl rfl hdX5_readSum_v ⟨Nat.le_of_ble_eq_true rfl, Nat.le_of_ble_eq_true rfl⟩) hN hE hL (rcv6 hN hT hw.1) rfl rfl hl.1 (Nat.le_of_ble_eq_true rfl) dX5_readStatement_101 (Nat.zero_le _) (Nat.zero_le _) (fun r5357 H1 locs hL hqr5357 => ?_)
                obtain ⟨hT1, hF1, hqr5357⟩ := hqr5357
                have hP : va_P D vwCl [((κ w).2.2.2, .inr (6, [.int (nI f5349_0), .int f5349_1, .int f5349_2, .null, .ref f5349_4, .ref f5349_5, .ref f5349_6, .ref f5349_7]))] _ := hF1.hP (hP.sub [0] rfl) (fa_c ⟨by rw [hsu.1]; decide, by rw [hsu.2]; first | decide | (simp; done) | (simp [h15a, h15b, h15c]; done) | (simp; omega)⟩ fa_n)
                have hF := hF.tr (hF1.mono (by simp))
                have hT := hT1
                rcases hqr5357 with rfl | rfl
                · refine lv_if_ne (tgt := 109) hx hb dX5_readStatement_104 (by decide) (fun c9 => absurd (by decide) c9) (fun _ => ?_)
                  refine lv_iconst (v := 0) hx hb dX5_readStatement_107 (by decide) ?_
                  refine W.know (fun hg => ?_)
                  rw [hH0] at hg
                  exact en_i hx hb hr hlocks hL rfl (Nat.zero_le _) (Nat.zero_le _) dX5_readStatement_108 (⟨_, (fun _ _ _ => rfl), hT, hF, hsu, Or.inl ⟨rfl, hg⟩, Or.inl rfl⟩)
                · refine lv_if_ne (tgt := 109) hx hb dX5_readStatement_104 (by decide) (fun _ => ?_) (fun c9 => absurd c9 (by decide))
                  refine lv_aload_n hx hb dX5_readStatement_109 rfl (lv_at hl 0 rfl) ?_
                  obtain ⟨hb5358, e5358, hat5358, hk5358⟩ := hT.o6 hw.1
                  obtain ⟨f5358_0, f5358_2, f5358_3, f5358_4, f5358_5, f5358_6, f5358_7, f5358_8, f5358_9, f5358_10, f5358_11, f5358_12, f5358_13, rfl, c5358_1, c5358_2, c5358_3, c5358_5, c5358_10, t5358_0, t5358_9, c5358_11, c5358_p2⟩ := hk5358
                  obtain rfl : f5358_11 = .ref (κ w).2.2.2 := c5358_p2.resolve_left hs0
                  have hP : va_P D vwCl [(w, .inr (5, [.ref f5358_0, .int (nI ((κ w).2.2.1)), .int (nI f5358_2), .int (nI f5358_3), .int f5358_4, .int (nI f5358_5), .int f5358_6, .int f5358_7, .int f5358_8, .ref f5358_9, .int (nI f5358_10), .ref (κ w).2.2.2, .int f5358_12, .int f5358_13])), ((κ w).2.2.2, .inr (6, [.int (nI f5349_0), .int f5349_1, .int f5349_2, .null, .ref f5349_4, .ref f5349_5, .ref f5349_6, .ref f5349_7]))] _ := va_P.cons hat5358 hP
                  refine va_get (D := D) (ci := 5) (v := .ref (κ w).2.2.2) (C := RX5) (T := TX5) (N := 14) hx hb hts iX5_readStatement_5 hown hN.1 hP 0 rfl rfl 11 (by decide) (hts _ mX5_readStatement_1) (fun _ h9 => h9) rfl dX5_readStatement_110 ?_
                  have hb0 : B0 ≤ _ := hT.b0 hw (by decide)
                  have hB : Bx B0 D _ [(w, .inr (5, [.ref f5358_0, .int (nI ((κ w).2.2.1)), .int (nI f5358_2), .int (nI f5358_3), .int f5358_4, .int (nI f5358_5), .int f5358_6, .int f5358_7, .int f5358_8, .ref f5358_9, .int (nI f5358_10), .ref (κ w).2.2.2, .int f5358_12, .int f5358_13])), ((κ w).2.2.2, .inr (6, [.int (nI f5349_0), .int f5349_1, .int f5349_2, .null, .ref f5349_4, .ref f5349_5, .ref f5349_6, .ref f5349_7]))] [] _ _ := Bx.of (fun a => (κ a).1) hL hP (fa_c hb5358 (fa_c hb5349 fa_n)) (by simp only [List.map_cons, List.map_nil, hw.1, hsu.1]; decide)
                  refine nw_o (ci := 0) (fs := [.null, .null]) (C := RX0) (T := TX0) (N := 2) hx hb hts iX5_readStatement_0 tyX0 tyX0_ok hown (hts _ mX5_readStatement_2) (hts _ mX5_readStatement_3) (hts _ mX5_readStatement_4) hN rfl dfl0 (show 0 + 1 ≤ 3 by omega) (show 0 + 2 ≤ 618 by omega) dX5_readStatement_113 (fun q5359 H heq5359 hzq5359 hoq5359 hatq5359 => ?_)
                  have hgeq5359 : _ ≤ q5359 := Nat.le_trans hB.2.2.1 (Nat.le_of_eq heq5359.symm)
                  have hbq5359 : B0 ≤ q5359 := Nat.le_trans hb0 hgeq5359
                  have hfq5359 : (κ q5359).1 = 0 := hT.fresh hgeq5359
                  have hB := hB.nw heq5359 hzq5359 hoq5359 hatq5359 hb0
                  have hB : Bx B0 D _ [(w, .inr (5, [.ref f5358_0, .int (nI ((κ w).2.2.1)), .int (nI f5358_2), .int (nI f5358_3), .int f5358_4, .int (nI f5358_5), .int f5358_6, .int f5358_7, .int f5358_8, .ref f5358_9, .int (nI f5358_10), .ref (κ w).2.2.2, .int f5358_12, .int f5358_13])), ((κ w).2.2.2, .inr (6, [.int (nI f5349_0), .int f5349_1, .int f5349_2, .null, .ref f5349_4, .ref f5349_5, .ref f5349_6, .ref f5349_7])), (q5359, .inr (0, [.null, .null]))] [] _ _ := hB
                  refine lv_dup hx hb dX5_readStatement_116 rfl ?_
                  refine lv_aload_n hx hb dX5_readStatement_117 rfl (lv_at hl 0 rfl) ?_
                  refine va_get (D := D) (ci := 5) (v := .ref f5358_9) (C := RX5) (T := TX5) (N := 14) hx hb hts iX5_readStatement_5 hown hN.1 hB.1 0 rfl rfl 9 (by decide) (hts _ mX5_readStatement_5) (fun _ h9 => h9) rfl dX5_readStatement_118 ?_
                  refine lv_aload_n hx hb dX5_readStatement_121 rfl (lv_at hl 0 rfl) ?_
                  refine va_get (D := D) (ci := 5) (v := .int (nI f5358_10)) (C := RX5) (T := TX5) (N := 14) hx hb hts iX5_readStatement_5 hown hN.1 hB.1 0 rfl rfl 10 (by decide) (hts _ mX5_readStatement_6) (fun _ h9 => h9) rfl dX5_readStatement_122 ?_
                  have hT : WT B0 D cs T κ _ := hT.close hB trivial
                  have hF : Fr B0 [10, 11] κ H0 _ := hF.close hB fa_n
                  have hL : OkL B0 _ := hB.2.2.2.2.2
                  have hP : va_P D vwCl [(w, .inr (5, [.ref f5358_0, .int (nI ((κ w).2.2.1)), .int (nI f5358_2), .int (nI f5358_3), .int f5358_4, .int (nI f5358_5), .int f5358_6, .int f5358_7, .int f5358_8, .ref f5358_9, .int (nI f5358_10), .ref (κ w).2.2.2, .int f5358_12, .int f5358_13])), ((κ w).2.2.2, .inr (6, [.int (nI f5349_0), .int f5349_1, .int f5349_2, .null, .ref f5349_4, .ref f5349_5, .ref f5349_6, .ref f5349_7])), (q5359, .inr (0, [.null, .null]))] _ := hB.1
                  refine ci_v (As := [.ref f5358_9, .int (nI f5358_10)]) (rest := [.ref q5359, .ref (κ w).2.2.2]) (b := q5359) ⟨hx, hb, hml, hown, hts⟩ (c_X0_init hT (w := q5359) hfq5359 hbq5359 (hP 2 _ rfl) (v := f5358_9) t5358_9 (n := f5358_10) (by first | omega | decide | assumption)) (cwI 2 hts gX5_readStatement_X0_init rfl rfl rfl (hts _ mX5_readStatement_4) (hts _ mX5_readStatement_156) (hts _ mX5_readStatement_157) rfl hdX0_init_o ⟨Nat.le_of_ble_eq_true rfl, Nat.le_of_ble_eq_true rfl⟩) hN hE hL rfl rfl hl.1 (Nat.le_of_ble_eq_true rfl) dX5_readStatement_125 (show 1 + 2 ≤ 3 by omega) (show (0 + 2) + 616 ≤ 618 by omega) (fun H1 locs hL hqr5360 => ?_)
                  obtain ⟨κr5360, hxr5360, hT1, hF1, hqr5360⟩ := hqr5360
                  have hF := hF.tr (hF1.mono (by simp))
                  have hT := hT1
                  have hKF : KF κ κr5360 := hxr5360.f
                  have hKX : KX κ κr5360 := hxr5360
                  have hw := (hxr5360.f.t2 hw (by decide))
                  have hsu := (hxr5360.f.t2 hsu (by decide))
                  have hq5359 := hqr5360
                  obtain ⟨hb5361, e5361, hat5361, hk5361⟩ := hT.o7 hsu.1
                  obtain ⟨f5361_0, f5361_1, f5361_2, f5361_3, f5361_4, f5361_5, f5361_6, f5361_7, rfl, c5361_0, c5361_3, c5361_mg, t5361_4, t5361_5, t5361_6, t5361_7⟩ := hk5361
                  rw [hsu.2] at t5361_4
                  rw [hsu.2] at t5361_5
                  rw [hsu.2] at t5361_6
                  rw [hsu.2] at t5361_7
                  have hP : va_P D vwCl [((κ w).2.2.2, .inr (6, [.int (nI f5361_0), .int f5361_1, .int f5361_2, f5361_3, .ref f5361_4, .ref f5361_5, .ref f5361_6, .ref f5361_7]))] _ := va_P.cons hat5361 va_P.nil
                  have hB : Bx B0 D _ [((κ w).2.2.2, .inr (6, [.int (nI f5361_0), .int f5361_1, .int f5361_2, f5361_3, .ref f5361_4, .ref f5361_5, .ref f5361_6, .ref f5361_7]))] [] _ _ := Bx.of (fun a => (κr5360 a).1) hL hP (fa_c hb5361 fa_n) (by simp only [List.map_cons, List.map_nil, hsu.1]; decide)
                  refine b_putN (D := D) (ci := 6) (v := .ref q5359) (ty := .object "OneBeat$Formula") (C := RX6) (T := TX6) (N := 8) hx hb hts iX5_readStatement_6 tyX6 tyX6_ok nmX6 hown hN hB 0 rfl rfl 3 (by decide) (hN.f 44 rfl) (fun _ h9 => h9) rfl (by decide +kernel) rfl rfl (Nat.le_of_ble_eq_true rfl) (.inl rfl) dX5_readStatement_128 (fun H locs hB => ?_)
                  have hB : Bx B0 D _ [((κ w).2.2.2, .inr (6, [.int (nI f5361_0), .int f5361_1, .int f5361_2, .ref q5359, .ref f5361_4, .ref f5361_5, .ref f5361_6, .ref f5361_7]))] [(κ w).2.2.2] _ _ := hB
                  refine lv_iconst (v := 1) hx hb dX5_readStatement_131 (by decide) ?_
                  have hF : Fr B0 [10, 11] κ H0 _ := hF.closeN hB (fa_c (fun h9 => by rw [← (hKF _ h9).2, hsu.2]; simp) fa_n)
                  have hT : WT B0 D cs T (kp κr5360 (κ w).2.2.2 1 0) _ := hT.closeK (κ w).2.2.2 1 0 hB (by rw [hsu.1]; decide) (by rw [hsu.1]; decide) (List.mem_of_getElem? (i := 0) rfl) ⟨⟨0, _, rfl, kp_ok (ok_7 (k := ((κr5360 (κ w).2.2.2).1, (κr5360 (κ w).2.2.2).2.1, _, _)) hsu.1 ⟨_, _, _, _, _, _, _, _, rfl, (by omega), (Or.inr ⟨_, rfl, (t2kp hq5359)⟩), (Or.inr ⟨_, rfl⟩), ⟨(t2kp t5361_4).1, by rw [hsu.2]; exact (t2kp t5361_4).2⟩, ⟨(t2kp t5361_5).1, by rw [hsu.2]; exact (t2kp t5361_5).2⟩, ⟨(t2kp t5361_6).1, by rw [hsu.2]; exact (t2kp t5361_6).2⟩, ⟨(t2kp t5361_7).1, by rw [hsu.2]; exact (t2kp t5361_7).2⟩⟩)⟩, trivial⟩
                  have hL : OkL B0 _ := hB.2.2.2.2.2
                  have hsu := t2kp (x := 1) (y := 0) (a := (κ w).2.2.2) hsu
                  refine W.know (fun hg => ?_)
                  rw [hH0] at hg
                  exact en_i hx hb hr hlocks hL rfl (show 3 ≤ 3 by omega) (show ((0 + 2) + 616) ≤ 618 by omega) dX5_readStatement_132 (⟨_, (fun a h1 h2 => (kp_n h2).trans (hKX a h1)), hT, hF, hsu, Or.inr ⟨hmg1, by rw [kp_a], hg.mono (by omega) (by omega)⟩, Or.inr rfl⟩)
              · refine va_getN (D := D) (ci := 6) (v := .ref a5354) (C := RX6) (T := TX6) (N := 8) hx hb hts iX5_readStatement_6 hown hN.1 hP 0 rfl rfl 3 (by decide) (hN.f 44 rfl) (fun _ h9 => h9) rfl dX5_readStatement_89 ?_
                refine lv_ifnonnull (tgt := 133) hx hb dX5_readStatement_92 (by decide) ?_
                refine lv_aload_n hx hb dX5_readStatement_133 rfl (lv_at hl 0 rfl) ?_
                refine lv_bipush (v := (-2)) hx hb dX5_readStatement_134 (by decide) ?_
                refine lv_aload_n hx hb dX5_readStatement_136 rfl (lv_at hl 0 rfl) ?_
                refine va_get (D := D) (ci := 5) (v := .int (nI f5348_5)) (C := RX5) (T := TX5) (N := 14) hx hb hts iX5_readStatement_5 hown hN.1 hP 1 rfl rfl 5 (by decide) (hts _ mX5_readStatement_7) (fun _ h9 => h9) rfl dX5_readStatement_137 ?_
                refine cv_i (As := [.int (-2), .int (nI f5348_5)]) (rest := []) (b := w) ⟨hx, hb, hml, hown, hts⟩ (c_X5_fail hT (w := w) hw (x := (-2)) (y := (nI f5348_5))) (cwV 2 hts gX5_readStatement_X5_fail rfl rfl rfl hdX5_fail_v ⟨Nat.le_of_ble_eq_true rfl, Nat.le_of_ble_eq_true rfl⟩) hN hE hL (rcv6 hN hT hw.1) rfl rfl hl.1 (Nat.le_of_ble_eq_true rfl) dX5_readStatement_140 (Nat.zero_le _) (Nat.zero_le _) (fun r5362 H1 locs hL hqr5362 => ?_)
                obtain ⟨hT1, hF1, hqr5362⟩ := hqr5362
                have hP : va_P D vwCl [((κ w).2.2.2, .inr (6, [.int (nI f5349_0), .int f5349_1, .int f5349_2, .ref a5354, .ref f5349_4, .ref f5349_5, .ref f5349_6, .ref f5349_7]))] _ := hF1.hP (hP.sub [0] rfl) (fa_c ⟨by rw [hsu.1]; decide, by rw [hsu.2]; first | decide | (simp; done) | (simp [h15a, h15b, h15c]; done) | (simp; omega)⟩ fa_n)
                have hF := hF.tr (hF1.mono (by simp))
                have hT := hT1
                obtain rfl := hqr5362
                refine W.know (fun hg => ?_)
                rw [hH0] at hg
                exact en_i hx hb hr hlocks hL rfl (Nat.zero_le _) (Nat.zero_le _) dX5_readStatement_143 (⟨_, (fun _ _ _ => rfl), hT, hF, hsu, Or.inl ⟨rfl, hg⟩, Or.inl rfl⟩)
          · refine lv_if_eq (tgt := 76) hx hb dX5_readStatement_58 (by decide) (fun c9 => absurd c9 (by decide)) (fun _ => ?_)
            refine lv_aload_n hx hb dX5_readStatement_61 rfl (lv_at hl 0 rfl) ?_
            refine va_get (D := D) (ci := 5) (v := .ref (κ w).2.2.2) (C := RX5) (T := TX5) (N := 14) hx hb hts iX5_readStatement_5 hown hN.1 hP 1 rfl rfl 11 (by decide) (hts _ mX5_readStatement_1) (fun _ h9 => h9) rfl dX5_readStatement_62 ?_
            refine va_getN (D := D) (ci := 6) (v := .int f5349_2) (C := RX6) (T := TX6) (N := 8) hx hb hts iX5_readStatement_6 hown hN.1 hP 0 rfl rfl 2 (by decide) (hN.f 42 rfl) (fun _ h9 => h9) rfl dX5_readStatement_65 ?_
            refine lv_if_ne (tgt := 76) hx hb dX5_readStatement_68 (by decide) (fun c5363 => ?_) (fun c5363 => ?_)
            · refine lv_aload_n hx hb dX5_readStatement_76 rfl (lv_at hl 0 rfl) ?_
              refine va_ldcS hx hb hown (hN.s 6 rfl) dX5_readStatement_77 ?_
              refine cv_i (As := [.ref (cs 106)]) (rest := []) (b := w) ⟨hx, hb, hml, hown, hts⟩ (c_X5_isWord hT (w := w) hw (i := 6) (by decide)) (cwV 1 hts gX5_readStatement_X5_isWord rfl rfl rfl hdX5_isWord_v ⟨Nat.le_of_ble_eq_true rfl, Nat.le_of_ble_eq_true rfl⟩) hN hE hL (rcv6 hN hT hw.1) rfl rfl hl.1 (Nat.le_of_ble_eq_true rfl) dX5_readStatement_79 (Nat.zero_le _) (Nat.zero_le _) (fun r5364 H1 locs hL hqr5364 => ?_)
              obtain ⟨h9, hqr5364⟩ := hqr5364; replace h9 := h9.symm; subst h9
              rcases hqr5364 with rfl | rfl
              · refine lv_if_eq (tgt := 133) hx hb dX5_readStatement_82 (by decide) (fun _ => ?_) (fun c9 => absurd (by decide) c9)
                refine lv_aload_n hx hb dX5_readStatement_133 rfl (lv_at hl 0 rfl) ?_
                refine lv_bipush (v := (-2)) hx hb dX5_readStatement_134 (by decide) ?_
                refine lv_aload_n hx hb dX5_readStatement_136 rfl (lv_at hl 0 rfl) ?_
                refine va_get (D := D) (ci := 5) (v := .int (nI f5348_5)) (C := RX5) (T := TX5) (N := 14) hx hb hts iX5_readStatement_5 hown hN.1 hP 1 rfl rfl 5 (by decide) (hts _ mX5_readStatement_7) (fun _ h9 => h9) rfl dX5_readStatement_137 ?_
                refine cv_i (As := [.int (-2), .int (nI f5348_5)]) (rest := []) (b := w) ⟨hx, hb, hml, hown, hts⟩ (c_X5_fail hT (w := w) hw (x := (-2)) (y := (nI f5348_5))) (cwV 2 hts gX5_readStatement_X5_fail rfl rfl rfl hdX5_fail_v ⟨Nat.le_of_ble_eq_true rfl, Nat.le_of_ble_eq_true rfl⟩) hN hE hL (rcv6 hN hT hw.1) rfl rfl hl.1 (Nat.le_of_ble_eq_true rfl) dX5_readStatement_140 (Nat.zero_le _) (Nat.zero_le _) (fun r5365 H1 locs hL hqr5365 => ?_)
                obtain ⟨hT1, hF1, hqr5365⟩ := hqr5365
                have hP : va_P D vwCl [((κ w).2.2.2, .inr (6, [.int (nI f5349_0), .int f5349_1, .int f5349_2, f5349_3, .ref f5349_4, .ref f5349_5, .ref f5349_6, .ref f5349_7]))] _ := hF1.hP (hP.sub [0] rfl) (fa_c ⟨by rw [hsu.1]; decide, by rw [hsu.2]; first | decide | (simp; done) | (simp [h15a, h15b, h15c]; done) | (simp; omega)⟩ fa_n)
                have hF := hF.tr (hF1.mono (by simp))
                have hT := hT1
                obtain rfl := hqr5365
                refine W.know (fun hg => ?_)
                rw [hH0] at hg
                exact en_i hx hb hr hlocks hL rfl (Nat.zero_le _) (Nat.zero_le _) dX5_readStatement_143 (⟨_, (fun _ _ _ => rfl), hT, hF, hsu, Or.inl ⟨rfl, hg⟩, Or.inl rfl⟩)
              · refine lv_if_eq (tgt := 133) hx hb dX5_readStatement_82 (by decide) (fun c9 => absurd c9 (by decide)) (fun _ => ?_)
                refine lv_aload_n hx hb dX5_readStatement_85 rfl (lv_at hl 0 rfl) ?_
                refine va_get (D := D) (ci := 5) (v := .ref (κ w).2.2.2) (C := RX5) (T := TX5) (N := 14) hx hb hts iX5_readStatement_5 hown hN.1 hP 1 rfl rfl 11 (by decide) (hts _ mX5_readStatement_1) (fun _ h9 => h9) rfl dX5_readStatement_86 ?_
                rcases c5349_3 with rfl | ⟨a5366, rfl, ta5366⟩
                · refine va_getN (D := D) (ci := 6) (v := .null) (C := RX6) (T := TX6) (N := 8) hx hb hts iX5_readStatement_6 hown hN.1 hP 0 rfl rfl 3 (by decide) (hN.f 44 rfl) (fun _ h9 => h9) rfl dX5_readStatement_89 ?_
                  refine lv_ifnonnullN hx hb dX5_readStatement_92 ?_
                  have hmg1 : (κ (κ w).2.2.2).2.2.1 ≠ 1 := (c5349_mg).resolve_right (by rintro ⟨_, h9⟩; cases h9)
                  refine lv_aload_n hx hb dX5_readStatement_95 rfl (lv_at hl 0 rfl) ?_
                  refine cv_v (As := []) (rest := []) (b := w) ⟨hx, hb, hml, hown, hts⟩ (c_X5_step hT (w := w) hw) (cwV 0 hts gX5_readStatement_X5_step rfl rfl rfl hdX5_step_v ⟨Nat.le_of_ble_eq_true rfl, Nat.le_of_ble_eq_true rfl⟩) hN hE hL (rcv6 hN hT hw.1) rfl rfl hl.1 (Nat.le_of_ble_eq_true rfl) dX5_readStatement_96 (Nat.zero_le _) (Nat.zero_le _) (fun H1 locs hL hqr5367 => ?_)
                  obtain ⟨hT1, hF1, hqr5367⟩ := hqr5367
                  have hP : va_P D vwCl [((κ w).2.2.2, .inr (6, [.int (nI f5349_0), .int f5349_1, .int f5349_2, .null, .ref f5349_4, .ref f5349_5, .ref f5349_6, .ref f5349_7]))] _ := hF1.hP (hP.sub [0] rfl) (fa_c ⟨by rw [hsu.1]; decide, by rw [hsu.2]; first | decide | (simp; done) | (simp [h15a, h15b, h15c]; done) | (simp; omega)⟩ fa_n)
                  have hF := hF.tr (hF1.mono (by simp))
                  have hT := hT1
                  have f5368 := hqr5367
                  refine lv_aload_n hx hb dX5_readStatement_99 rfl (lv_at hl 0 rfl) ?_
                  refine lv_iconst (v := 0) hx hb dX5_readStatement_100 (by decide) ?_
                  refine cv_i (As := [.int 0]) (rest := []) (b := w) ⟨hx, hb, hml, hown, hts⟩ (c_X5_readSum_d0 hT (w := w) hw) (cwV 1 hts gX5_readStatement_X5_readSum rfl rfl rfl hdX5_readSum_v ⟨Nat.le_of_ble_eq_true rfl, Nat.le_of_ble_eq_true rfl⟩) hN hE hL (rcv6 hN hT hw.1) rfl rfl hl.1 (Nat.le_of_ble_eq_true rfl) dX5_readStatement_101 (Nat.zero_le _) (Nat.zero_le _) (fun r5369 H1 locs hL hqr5369 => ?_)
                  obtain ⟨hT1, hF1, hqr5369⟩ := hqr5369
                  have hP : va_P D vwCl [((κ w).2.2.2, .inr (6, [.int (nI f5349_0), .int f5349_1, .int f5349_2, .null, .ref f5349_4, .ref f5349_5, .ref f5349_6, .ref f5349_7]))] _ := hF1.hP (hP.sub [0] rfl) (fa_c ⟨by rw [hsu.1]; decide, by rw [hsu.2]; first | decide | (simp; done) | (simp [h15a, h15b, h15c]; done) | (simp; omega)⟩ fa_n)
                  have hF := hF.tr (hF1.mono (by simp))
                  have hT := hT1
                  rcases hqr5369 with rfl | rfl
                  · refine lv_if_ne (tgt := 109) hx hb dX5_readStatement_104 (by decide) (fun c9 => absurd (by decide) c9) (fun _ => ?_)
                    refine lv_iconst (v := 0) hx hb dX5_readStatement_107 (by decide) ?_
                    refine W.know (fun hg => ?_)
                    rw [hH0] at hg
                    exact en_i hx hb hr hlocks hL rfl (Nat.zero_le _) (Nat.zero_le _) dX5_readStatement_108 (⟨_, (fun _ _ _ => rfl), hT, hF, hsu, Or.inl ⟨rfl, hg⟩, Or.inl rfl⟩)
                  · refine lv_if_ne (tgt := 109) hx hb dX5_readStatement_104 (by decide) (fun _ => ?_) (fun c9 => absurd c9 (by decide))
                    refine lv_aload_n hx hb dX5_readStatement_109 rfl (lv_at hl 0 rfl) ?_
                    obtain ⟨hb5370, e5370, hat5370, hk5370⟩ := hT.o6 hw.1
                    obtain ⟨f5370_0, f5370_2, f5370_3, f5370_4, f5370_5, f5370_6, f5370_7, f5370_8, f5370_9, f5370_10, f5370_11, f5370_12, f5370_13, rfl, c5370_1, c5370_2, c5370_3, c5370_5, c5370_10, t5370_0, t5370_9, c5370_11, c5370_p2⟩ := hk5370
                    obtain rfl : f5370_11 = .ref (κ w).2.2.2 := c5370_p2.resolve_left hs0
                    have hP : va_P D vwCl [(w, .inr (5, [.ref f5370_0, .int (nI ((κ w).2.2.1)), .int (nI f5370_2), .int (nI f5370_3), .int f5370_4, .int (nI f5370_5), .int f5370_6, .int f5370_7, .int f5370_8, .ref f5370_9, .int (nI f5370_10), .ref (κ w).2.2.2, .int f5370_12, .int f5370_13])), ((κ w).2.2.2, .inr (6, [.int (nI f5349_0), .int f5349_1, .int f5349_2, .null, .ref f5349_4, .ref f5349_5, .ref f5349_6, .ref f5349_7]))] _ := va_P.cons hat5370 hP
                    refine va_get (D := D) (ci := 5) (v := .ref (κ w).2.2.2) (C := RX5) (T := TX5) (N := 14) hx hb hts iX5_readStatement_5 hown hN.1 hP 0 rfl rfl 11 (by decide) (hts _ mX5_readStatement_1) (fun _ h9 => h9) rfl dX5_readStatement_110 ?_
                    have hb0 : B0 ≤ _ := hT.b0 hw (by decide)
                    have hB : Bx B0 D _ [(w, .inr (5, [.ref f5370_0, .int (nI ((κ w).2.2.1)), .int (nI f5370_2), .int (nI f5370_3), .int f5370_4, .int (nI f5370_5), .int f5370_6, .int f5370_7, .int f5370_8, .ref f5370_9, .int (nI f5370_10), .ref (κ w).2.2.2, .int f5370_12, .int f5370_13])), ((κ w).2.2.2, .inr (6, [.int (nI f5349_0), .int f5349_1, .int f5349_2, .null, .ref f5349_4, .ref f5349_5, .ref f5349_6, .ref f5349_7]))] [] _ _ := Bx.of (fun a => (κ a).1) hL hP (fa_c hb5370 (fa_c hb5349 fa_n)) (by simp only [List.map_cons, List.map_nil, hw.1, hsu.1]; decide)
                    refine nw_o (ci := 0) (fs := [.null, .null]) (C := RX0) (T := TX0) (N := 2) hx hb hts iX5_readStatement_0 tyX0 tyX0_ok hown (hts _ mX5_readStatement_2) (hts _ mX5_readStatement_3) (hts _ mX5_readStatement_4) hN rfl dfl0 (show 0 + 1 ≤ 3 by omega) (show 0 + 2 ≤ 618 by omega) dX5_readStatement_113 (fun q5371 H heq5371 hzq5371 hoq5371 hatq5371 => ?_)
                    have hgeq5371 : _ ≤ q5371 := Nat.le_trans hB.2.2.1 (Nat.le_of_eq heq5371.symm)
                    have hbq5371 : B0 ≤ q5371 := Nat.le_trans hb0 hgeq5371
                    have hfq5371 : (κ q5371).1 = 0 := hT.fresh hgeq5371
                    have hB := hB.nw heq5371 hzq5371 hoq5371 hatq5371 hb0
                    have hB : Bx B0 D _ [(w, .inr (5, [.ref f5370_0, .int (nI ((κ w).2.2.1)), .int (nI f5370_2), .int (nI f5370_3), .int f5370_4, .int (nI f5370_5), .int f5370_6, .int f5370_7, .int f5370_8, .ref f5370_9, .int (nI f5370_10), .ref (κ w).2.2.2, .int f5370_12, .int f5370_13])), ((κ w).2.2.2, .inr (6, [.int (nI f5349_0), .int f5349_1, .int f5349_2, .null, .ref f5349_4, .ref f5349_5, .ref f5349_6, .ref f5349_7])), (q5371, .inr (0, [.null, .null]))] [] _ _ := hB
                    refine lv_dup hx hb dX5_readStatement_116 rfl ?_
                    refine lv_aload_n hx hb dX5_readStatement_117 rfl (lv_at hl 0 rfl) ?_
                    refine va_get (D := D) (ci := 5) (v := .ref f5370_9) (C := RX5) (T := TX5) (N := 14) hx hb hts iX5_readStatement_5 hown hN.1 hB.1 0 rfl rfl 9 (by decide) (hts _ mX5_readStatement_5) (fun _ h9 => h9) rfl dX5_readStatement_118 ?_
                    refine lv_aload_n hx hb dX5_readStatement_121 rfl (lv_at hl 0 rfl) ?_
                    refine va_get (D := D) (ci := 5) (v := .int (nI f5370_10)) (C := RX5) (T := TX5) (N := 14) hx hb hts iX5_readStatement_5 hown hN.1 hB.1 0 rfl rfl 10 (by decide) (hts _ mX5_readStatement_6) (fun _ h9 => h9) rfl dX5_readStatement_122 ?_
                    have hT : WT B0 D cs T κ _ := hT.close hB trivial
                    have hF : Fr B0 [10, 11] κ H0 _ := hF.close hB fa_n
                    have hL : OkL B0 _ := hB.2.2.2.2.2
                    have hP : va_P D vwCl [(w, .inr (5, [.ref f5370_0, .int (nI ((κ w).2.2.1)), .int (nI f5370_2), .int (nI f5370_3), .int f5370_4, .int (nI f5370_5), .int f5370_6, .int f5370_7, .int f5370_8, .ref f5370_9, .int (nI f5370_10), .ref (κ w).2.2.2, .int f5370_12, .int f5370_13])), ((κ w).2.2.2, .inr (6, [.int (nI f5349_0), .int f5349_1, .int f5349_2, .null, .ref f5349_4, .ref f5349_5, .ref f5349_6, .ref f5349_7])), (q5371, .inr (0, [.null, .null]))] _ := hB.1
                    refine ci_v (As := [.ref f5370_9, .int (nI f5370_10)]) (rest := [.ref q5371, .ref (κ w).2.2.2]) (b := q5371) ⟨hx, hb, hml, hown, hts⟩ (c_X0_init hT (w := q5371) hfq5371 hbq5371 (hP 2 _ rfl) (v := f5370_9) t5370_9 (n := f5370_10) (by first | omega | decide | assumption)) (cwI 2 hts gX5_readStatement_X0_init rfl rfl rfl (hts _ mX5_readStatement_4) (hts _ mX5_readStatement_156) (hts _ mX5_readStatement_157) rfl hdX0_init_o ⟨Nat.le_of_ble_eq_true rfl, Nat.le_of_ble_eq_true rfl⟩) hN hE hL rfl rfl hl.1 (Nat.le_of_ble_eq_true rfl) dX5_readStatement_125 (show 1 + 2 ≤ 3 by omega) (show (0 + 2) + 616 ≤ 618 by omega) (fun H1 locs hL hqr5372 => ?_)
                    obtain ⟨κr5372, hxr5372, hT1, hF1, hqr5372⟩ := hqr5372
                    have hF := hF.tr (hF1.mono (by simp))
                    have hT := hT1
                    have hKF : KF κ κr5372 := hxr5372.f
                    have hKX : KX κ κr5372 := hxr5372
                    have hw := (hxr5372.f.t2 hw (by decide))
                    have hsu := (hxr5372.f.t2 hsu (by decide))
                    have hq5371 := hqr5372
                    obtain ⟨hb5373, e5373, hat5373, hk5373⟩ := hT.o7 hsu.1
                    obtain ⟨f5373_0, f5373_1, f5373_2, f5373_3, f5373_4, f5373_5, f5373_6, f5373_7, rfl, c5373_0, c5373_3, c5373_mg, t5373_4, t5373_5, t5373_6, t5373_7⟩ := hk5373
                    rw [hsu.2] at t5373_4
                    rw [hsu.2] at t5373_5
                    rw [hsu.2] at t5373_6
                    rw [hsu.2] at t5373_7
                    have hP : va_P D vwCl [((κ w).2.2.2, .inr (6, [.int (nI f5373_0), .int f5373_1, .int f5373_2, f5373_3, .ref f5373_4, .ref f5373_5, .ref f5373_6, .ref f5373_7]))] _ := va_P.cons hat5373 va_P.nil
                    have hB : Bx B0 D _ [((κ w).2.2.2, .inr (6, [.int (nI f5373_0), .int f5373_1, .int f5373_2, f5373_3, .ref f5373_4, .ref f5373_5, .ref f5373_6, .ref f5373_7]))] [] _ _ := Bx.of (fun a => (κr5372 a).1) hL hP (fa_c hb5373 fa_n) (by simp only [List.map_cons, List.map_nil, hsu.1]; decide)
                    refine b_putN (D := D) (ci := 6) (v := .ref q5371) (ty := .object "OneBeat$Formula") (C := RX6) (T := TX6) (N := 8) hx hb hts iX5_readStatement_6 tyX6 tyX6_ok nmX6 hown hN hB 0 rfl rfl 3 (by decide) (hN.f 44 rfl) (fun _ h9 => h9) rfl (by decide +kernel) rfl rfl (Nat.le_of_ble_eq_true rfl) (.inl rfl) dX5_readStatement_128 (fun H locs hB => ?_)
                    have hB : Bx B0 D _ [((κ w).2.2.2, .inr (6, [.int (nI f5373_0), .int f5373_1, .int f5373_2, .ref q5371, .ref f5373_4, .ref f5373_5, .ref f5373_6, .ref f5373_7]))] [(κ w).2.2.2] _ _ := hB
                    refine lv_iconst (v := 1) hx hb dX5_readStatement_131 (by decide) ?_
                    have hF : Fr B0 [10, 11] κ H0 _ := hF.closeN hB (fa_c (fun h9 => by rw [← (hKF _ h9).2, hsu.2]; simp) fa_n)
                    have hT : WT B0 D cs T (kp κr5372 (κ w).2.2.2 1 0) _ := hT.closeK (κ w).2.2.2 1 0 hB (by rw [hsu.1]; decide) (by rw [hsu.1]; decide) (List.mem_of_getElem? (i := 0) rfl) ⟨⟨0, _, rfl, kp_ok (ok_7 (k := ((κr5372 (κ w).2.2.2).1, (κr5372 (κ w).2.2.2).2.1, _, _)) hsu.1 ⟨_, _, _, _, _, _, _, _, rfl, (by omega), (Or.inr ⟨_, rfl, (t2kp hq5371)⟩), (Or.inr ⟨_, rfl⟩), ⟨(t2kp t5373_4).1, by rw [hsu.2]; exact (t2kp t5373_4).2⟩, ⟨(t2kp t5373_5).1, by rw [hsu.2]; exact (t2kp t5373_5).2⟩, ⟨(t2kp t5373_6).1, by rw [hsu.2]; exact (t2kp t5373_6).2⟩, ⟨(t2kp t5373_7).1, by rw [hsu.2]; exact (t2kp t5373_7).2⟩⟩)⟩, trivial⟩
                    have hL : OkL B0 _ := hB.2.2.2.2.2
                    have hsu := t2kp (x := 1) (y := 0) (a := (κ w).2.2.2) hsu
                    refine W.know (fun hg => ?_)
                    rw [hH0] at hg
                    exact en_i hx hb hr hlocks hL rfl (show 3 ≤ 3 by omega) (show ((0 + 2) + 616) ≤ 618 by omega) dX5_readStatement_132 (⟨_, (fun a h1 h2 => (kp_n h2).trans (hKX a h1)), hT, hF, hsu, Or.inr ⟨hmg1, by rw [kp_a], hg.mono (by omega) (by omega)⟩, Or.inr rfl⟩)
                · refine va_getN (D := D) (ci := 6) (v := .ref a5366) (C := RX6) (T := TX6) (N := 8) hx hb hts iX5_readStatement_6 hown hN.1 hP 0 rfl rfl 3 (by decide) (hN.f 44 rfl) (fun _ h9 => h9) rfl dX5_readStatement_89 ?_
                  refine lv_ifnonnull (tgt := 133) hx hb dX5_readStatement_92 (by decide) ?_
                  refine lv_aload_n hx hb dX5_readStatement_133 rfl (lv_at hl 0 rfl) ?_
                  refine lv_bipush (v := (-2)) hx hb dX5_readStatement_134 (by decide) ?_
                  refine lv_aload_n hx hb dX5_readStatement_136 rfl (lv_at hl 0 rfl) ?_
                  refine va_get (D := D) (ci := 5) (v := .int (nI f5348_5)) (C := RX5) (T := TX5) (N := 14) hx hb hts iX5_readStatement_5 hown hN.1 hP 1 rfl rfl 5 (by decide) (hts _ mX5_readStatement_7) (fun _ h9 => h9) rfl dX5_readStatement_137 ?_
                  refine cv_i (As := [.int (-2), .int (nI f5348_5)]) (rest := []) (b := w) ⟨hx, hb, hml, hown, hts⟩ (c_X5_fail hT (w := w) hw (x := (-2)) (y := (nI f5348_5))) (cwV 2 hts gX5_readStatement_X5_fail rfl rfl rfl hdX5_fail_v ⟨Nat.le_of_ble_eq_true rfl, Nat.le_of_ble_eq_true rfl⟩) hN hE hL (rcv6 hN hT hw.1) rfl rfl hl.1 (Nat.le_of_ble_eq_true rfl) dX5_readStatement_140 (Nat.zero_le _) (Nat.zero_le _) (fun r5374 H1 locs hL hqr5374 => ?_)
                  obtain ⟨hT1, hF1, hqr5374⟩ := hqr5374
                  have hP : va_P D vwCl [((κ w).2.2.2, .inr (6, [.int (nI f5349_0), .int f5349_1, .int f5349_2, .ref a5366, .ref f5349_4, .ref f5349_5, .ref f5349_6, .ref f5349_7]))] _ := hF1.hP (hP.sub [0] rfl) (fa_c ⟨by rw [hsu.1]; decide, by rw [hsu.2]; first | decide | (simp; done) | (simp [h15a, h15b, h15c]; done) | (simp; omega)⟩ fa_n)
                  have hF := hF.tr (hF1.mono (by simp))
                  have hT := hT1
                  obtain rfl := hqr5374
                  refine W.know (fun hg => ?_)
                  rw [hH0] at hg
                  exact en_i hx hb hr hlocks hL rfl (Nat.zero_le _) (Nat.zero_le _) dX5_readStatement_143 (⟨_, (fun _ _ _ => rfl), hT, hF, hsu, Or.inl ⟨rfl, hg⟩, Or.inl rfl⟩)
            · refine lv_aload_n hx hb dX5_readStatement_71 rfl (lv_at hl 0 rfl) ?_
              refine cv_i (As := []) (rest := []) (b := w) ⟨hx, hb, hml, hown, hts⟩ (c_X5_readPatience hT (w := w) hw (by first | omega | decide | assumption) (by first | omega | decide | assumption)) (cwV 0 hts gX5_readStatement_X5_readPatience rfl rfl rfl hdX5_readPatience_v ⟨Nat.le_of_ble_eq_true rfl, Nat.le_of_ble_eq_true rfl⟩) hN hE hL (rcv6 hN hT hw.1) rfl rfl hl.1 (Nat.le_of_ble_eq_true rfl) dX5_readStatement_72 (Nat.zero_le _) (Nat.zero_le _) (fun r5375 H1 locs hL hqr5375 => ?_)
              obtain ⟨hT1, hF1, hqr5375⟩ := hqr5375
              have hF := hF.tr (hF1.mono (by simp))
              have hT := hT1
              rcases hqr5375 with rfl | rfl
              · refine W.know (fun hg => ?_)
                rw [hH0] at hg
                exact en_i hx hb hr hlocks hL rfl (Nat.zero_le _) (Nat.zero_le _) dX5_readStatement_75 (⟨_, (fun _ _ _ => rfl), hT, hF, hsu, Or.inl ⟨rfl, hg⟩, Or.inl rfl⟩)
              · refine W.know (fun hg => ?_)
                rw [hH0] at hg
                exact en_i hx hb hr hlocks hL rfl (Nat.zero_le _) (Nat.zero_le _) dX5_readStatement_75 (⟨_, (fun _ _ _ => rfl), hT, hF, hsu, Or.inl ⟨rfl, hg⟩, Or.inr rfl⟩)
        · refine lv_aload_n hx hb dX5_readStatement_47 rfl (lv_at hl 0 rfl) ?_
          refine cv_i (As := []) (rest := []) (b := w) ⟨hx, hb, hml, hown, hts⟩ (c_X5_readNeed hT (w := w) hw (by first | omega | decide | assumption) (by first | omega | decide | assumption)) (cwV 0 hts gX5_readStatement_X5_readNeed rfl rfl rfl hdX5_readNeed_v ⟨Nat.le_of_ble_eq_true rfl, Nat.le_of_ble_eq_true rfl⟩) hN hE hL (rcv6 hN hT hw.1) rfl rfl hl.1 (Nat.le_of_ble_eq_true rfl) dX5_readStatement_48 (Nat.zero_le _) (Nat.zero_le _) (fun r5376 H1 locs hL hqr5376 => ?_)
          obtain ⟨hT1, hF1, hqr5376⟩ := hqr5376
          have hF := hF.tr (hF1.mono (by simp))
          have hT := hT1
          rcases hqr5376 with rfl | rfl
          · refine W.know (fun hg => ?_)
            rw [hH0] at hg
            exact en_i hx hb hr hlocks hL rfl (Nat.zero_le _) (Nat.zero_le _) dX5_readStatement_51 (⟨_, (fun _ _ _ => rfl), hT, hF, hsu, Or.inl ⟨rfl, hg⟩, Or.inl rfl⟩)
          · refine W.know (fun hg => ?_)
            rw [hH0] at hg
            exact en_i hx hb hr hlocks hL rfl (Nat.zero_le _) (Nat.zero_le _) dX5_readStatement_51 (⟨_, (fun _ _ _ => rfl), hT, hF, hsu, Or.inl ⟨rfl, hg⟩, Or.inr rfl⟩)
    · refine lv_if_eq (tgt := 28) hx hb dX5_readStatement_20 (by decide) (fun c9 => absurd c9 (by decide)) (fun _ => ?_)
      refine lv_aload_n hx hb dX5_readStatement_23 rfl (lv_at hl 0 rfl) ?_
      refine cv_i (As := []) (rest := []) (b := w) ⟨hx, hb, hml, hown, hts⟩ (c_X5_readLink hT (w := w) hw (by first | omega | decide | assumption) (by first | omega | decide | assumption)) (cwV 0 hts gX5_readStatement_X5_readLink rfl rfl rfl hdX5_readLink_v ⟨Nat.le_of_ble_eq_true rfl, Nat.le_of_ble_eq_true rfl⟩) hN hE hL (rcv6 hN hT hw.1) rfl rfl hl.1 (Nat.le_of_ble_eq_true rfl) dX5_readStatement_24 (Nat.zero_le _) (Nat.zero_le _) (fun r5377 H1 locs hL hqr5377 => ?_)
      obtain ⟨hT1, hF1, hqr5377⟩ := hqr5377
      have hF := hF.tr (hF1.mono (by simp))
      have hT := hT1
      rcases hqr5377 with rfl | rfl
      · refine W.know (fun hg => ?_)
        rw [hH0] at hg
        exact en_i hx hb hr hlocks hL rfl (Nat.zero_le _) (Nat.zero_le _) dX5_readStatement_27 (⟨_, (fun _ _ _ => rfl), hT, hF, hsu, Or.inl ⟨rfl, hg⟩, Or.inl rfl⟩)
      · refine W.know (fun hg => ?_)
        rw [hH0] at hg
        exact en_i hx hb hr hlocks hL rfl (Nat.zero_le _) (Nat.zero_le _) dX5_readStatement_27 (⟨_, (fun _ _ _ => rfl), hT, hF, hsu, Or.inl ⟨rfl, hg⟩, Or.inr rfl⟩)
  · refine lv_if_eq (tgt := 14) hx hb dX5_readStatement_6 (by decide) (fun c9 => absurd c9 (by decide)) (fun _ => ?_)
    refine lv_aload_n hx hb dX5_readStatement_9 rfl (lv_at hl 0 rfl) ?_
    refine cv_i (As := []) (rest := []) (b := w) ⟨hx, hb, hml, hown, hts⟩ (c_X5_readClock hT (w := w) hw (by first | omega | decide | assumption) (by first | omega | decide | assumption)) (cwV 0 hts gX5_readStatement_X5_readClock rfl rfl rfl hdX5_readClock_v ⟨Nat.le_of_ble_eq_true rfl, Nat.le_of_ble_eq_true rfl⟩) hN hE hL (rcv6 hN hT hw.1) rfl rfl hl.1 (Nat.le_of_ble_eq_true rfl) dX5_readStatement_10 (Nat.zero_le _) (Nat.zero_le _) (fun r5378 H1 locs hL hqr5378 => ?_)
    obtain ⟨hT1, hF1, hqr5378⟩ := hqr5378
    have hF := hF.tr (hF1.mono (by simp))
    have hT := hT1
    rcases hqr5378 with rfl | rfl
    · refine W.know (fun hg => ?_)
      rw [hH0] at hg
      exact en_i hx hb hr hlocks hL rfl (Nat.zero_le _) (Nat.zero_le _) dX5_readStatement_13 (⟨_, (fun _ _ _ => rfl), hT, hF, hsu, Or.inl ⟨rfl, hg⟩, Or.inl rfl⟩)
    · refine W.know (fun hg => ?_)
      rw [hH0] at hg
      exact en_i hx hb hr hlocks hL rfl (Nat.zero_le _) (Nat.zero_le _) dX5_readStatement_13 (⟨_, (fun _ _ _ => rfl), hT, hF, hsu, Or.inl ⟨rfl, hg⟩, Or.inr rfl⟩)
theorem mX5_read_1 : (.fieldLink RX5 11 "OneBeat$Reader" "text" "[B" : Cond) ∈ wsX5_read := List.mem_of_getElem? (i := 1) (by decide +kernel)
theorem iX5_read_5 : ∀ w ∈ wsX50, w ∈ wsX5_read := fun w h => List.mem_of_mem_drop (List.mem_of_mem_take ((show wsX50 = (wsX5_read.drop 210).take 14 by decide +kernel) ▸ h))
theorem mX5_read_2 : (.methodLink RX5 23 Lib.Math.min.name : Cond) ∈ wsX5_read := List.mem_of_getElem? (i := 2) (by decide +kernel)
theorem mX5_read_3 : (.static Lib.Math.min.name : Cond) ∈ wsX5_read := List.mem_of_getElem? (i := 3) (by decide +kernel)
theorem mX5_read_4 : (.initialized "java/lang/Math" : Cond) ∈ wsX5_read := List.mem_of_getElem? (i := 4) (by decide +kernel)
theorem mX5_read_5 : (.code Lib.Math.min.name Lib.Math.min.code 2 (some .int) : Cond) ∈ wsX5_read := List.mem_of_getElem? (i := 5) (by decide +kernel)
theorem mX5_read_6 : (.methodLink RX5 29 Lib.Math.max.name : Cond) ∈ wsX5_read := List.mem_of_getElem? (i := 6) (by decide +kernel)
theorem mX5_read_7 : (.static Lib.Math.max.name : Cond) ∈ wsX5_read := List.mem_of_getElem? (i := 7) (by decide +kernel)
theorem mX5_read_8 : (.code Lib.Math.max.name Lib.Math.max.code 2 (some .int) : Cond) ∈ wsX5_read := List.mem_of_getElem? (i := 8) (by decide +kernel)
theorem mX5_read_9 : (.fieldLink RX5 32 "OneBeat$Reader" "length" "I" : Cond) ∈ wsX5_read := List.mem_of_getElem? (i := 9) (by decide +kernel)
theorem mX5_read_10 : (.fieldLink RX5 19 "OneBeat$Reader" "stored" "I" : Cond) ∈ wsX5_read := List.mem_of_getElem? (i := 10) (by decide +kernel)
theorem mX5_read_11 : (.fieldLink RX5 35 "OneBeat$Reader" "position" "I" : Cond) ∈ wsX5_read := List.mem_of_getElem? (i := 11) (by decide +kernel)
theorem mX5_read_12 : (.fieldLink RX5 38 "OneBeat$Reader" "codeCount" "I" : Cond) ∈ wsX5_read := List.mem_of_getElem? (i := 12) (by decide +kernel)
theorem mX5_read_13 : (.fieldLink RX5 41 "OneBeat$Reader" "errorStart" "I" : Cond) ∈ wsX5_read := List.mem_of_getElem? (i := 13) (by decide +kernel)
theorem hdX5_takeWord_v : yX5_takeWord.cls = RX5 ∧ yX5_takeWord.cls ≠ "java/lang/invoke/MethodHandle" ∧ yX5_takeWord.cls ≠ "java/lang/invoke/VarHandle" ∧ (parseMethodDescriptor yX5_takeWord.desc).map (fun d => d.parameters.length) = some 1 := by decide +kernel
theorem iX5_read_6 : ∀ w ∈ wsX60, w ∈ wsX5_read := fun w h => List.mem_of_mem_drop (List.mem_of_mem_take ((show wsX60 = (wsX5_read.drop 224).take 8 by decide +kernel) ▸ h))
theorem mX5_read_14 : (.classLink RX5 53 RX6 : Cond) ∈ wsX5_read := List.mem_of_getElem? (i := 14) (by decide +kernel)
theorem mX5_read_15 : (.instantiable RX6 8 : Cond) ∈ wsX5_read := List.mem_of_getElem? (i := 15) (by decide +kernel)
theorem mX5_read_16 : (.initialized RX6 : Cond) ∈ wsX5_read := List.mem_of_getElem? (i := 16) (by decide +kernel)
theorem dfl6 : ∀ j, j < 8 → defaultValue (tyX6 j) = vp_V [.int 0, .int 0, .int 0, .null, .null, .null, .null, .null] j := by decide +kernel
theorem mX5_read_17 : (.fieldLink RX5 59 "OneBeat$Reader" "taken" "I" : Cond) ∈ wsX5_read := List.mem_of_getElem? (i := 17) (by decide +kernel)
theorem mX5_read_96 : (.instanceMethod yX6_init : Cond) ∈ wsX5_read := List.mem_of_getElem? (i := 96) (by decide +kernel)
theorem mX5_read_95 : (.methodLink RX5 62 yX6_init : Cond) ∈ wsX5_read := List.mem_of_getElem? (i := 95) (by decide +kernel)
theorem hdX6_init_o : yX6_init.cls ≠ "java/lang/invoke/MethodHandle" ∧ yX6_init.cls ≠ "java/lang/invoke/VarHandle" ∧ (parseMethodDescriptor yX6_init.desc).map (fun d => d.parameters.length) = some 1 := by decide +kernel
theorem mX5_read_18 : (.fieldLink RX5 65 "OneBeat$Reader" "setup" "LOneBeat$Setup;" : Cond) ∈ wsX5_read := List.mem_of_getElem? (i := 18) (by decide +kernel)
theorem hdX6_fillIn_v : yX6_fillIn.cls = RX6 ∧ yX6_fillIn.cls ≠ "java/lang/invoke/MethodHandle" ∧ yX6_fillIn.cls ≠ "java/lang/invoke/VarHandle" ∧ (parseMethodDescriptor yX6_fillIn.desc).map (fun d => d.parameters.length) = some 0 := by decide +kernel
theorem mX5_read_19 : (.fieldLink RX5 73 "OneBeat$Reader" "kind" "I" : Cond) ∈ wsX5_read := List.mem_of_getElem? (i := 19) (by decide +kernel)
theorem hdX5_readStatement_v : yX5_readStatement.cls = RX5 ∧ yX5_readStatement.cls ≠ "java/lang/invoke/MethodHandle" ∧ yX5_readStatement.cls ≠ "java/lang/invoke/VarHandle" ∧ (parseMethodDescriptor yX5_readStatement.desc).map (fun d => d.parameters.length) = some 0 := by decide +kernel
set_option maxHeartbeats 4000000 in
set_option maxRecDepth 100000 in
theorem c_X5_read {l : Launch} {D : va_G} {cs : Nat → ClassId} {B0 T : Nat} {κ : KM} {H0 : Heap} (hT : WT B0 D cs T κ H0) {w : Nat} (hw : T2 κ w 6 10) {n : Nat} (hn : n ≤ 600) : KC l yX5_read wsX5_read 22 487 11 1332 D cs B0 H0 [.ref w, .int (nI n)] (Qn (fun r H => ∃ κ1, (∀ a, (κ a).1 ≠ 0 → a ≠ w → (κ a).2.1 ≠ 11 → κ1 a = κ a) ∧ (∀ a, (κ a).1 ≠ 0 → (κ1 a).1 = (κ a).1) ∧ T2 κ1 w 6 10 ∧ (κ1 w).2.2.1 = 0 ∧ WT B0 D cs T κ1 H ∧ Fr B0 [10, 11] κ H0 H ∧ Gr H0 H 8 714 ∧ (r = .null ∨ ∃ q, r = .ref q ∧ T2 κ1 q 7 15))) := by
  refine KC.of cX5_read 3 (some (.object "OneBeat$Setup")) (by decide) rfl (Nat.le_of_ble_eq_true rfl) ?_
  intro p e s m below meth c ls hx hb hr hml hown hts hlocks hin hN hE hH0 hl
  have hown : s.vm.findClass RX5 = some m.cls := hown
  have hl : lv_has ls 3 [(0, .ref w), (1, .int (nI n))] := hl
  have hL : OkL B0 [] := OkL.nil
  have hF : Fr B0 [10, 11] κ H0 H0 := Fr.rf
  refine lv_aload_n hx hb dX5_read_0 rfl (lv_at hl 0 rfl) ?_
  refine lv_iconst (v := 0) hx hb dX5_read_1 (by decide) ?_
  refine lv_iload_n hx hb dX5_read_2 rfl (lv_at hl 1 rfl) ?_
  refine lv_aload_n hx hb dX5_read_3 rfl (lv_at hl 0 rfl) ?_
  obtain ⟨hb5379, e5379, hat5379, hk5379⟩ := hT.o6 hw.1
  obtain ⟨f5379_0, f5379_2, f5379_3, f5379_4, f5379_5, f5379_6, f5379_7, f5379_8, f5379_9, f5379_10, f5379_11, f5379_12, f5379_13, rfl, c5379_1, c5379_2, c5379_3, c5379_5, c5379_10, t5379_0, t5379_9, c5379_11, c5379_p2⟩ := hk5379
  have hP : va_P D vwCl [(w, .inr (5, [.ref f5379_0, .int (nI ((κ w).2.2.1)), .int (nI f5379_2), .int (nI f5379_3), .int f5379_4, .int (nI f5379_5), .int f5379_6, .int f5379_7, .int f5379_8, .ref f5379_9, .int (nI f5379_10), f5379_11, .int f5379_12, .int f5379_13]))] _ := va_P.cons hat5379 va_P.nil
  refine va_get (D := D) (ci := 5) (v := .ref f5379_0) (C := RX5) (T := TX5) (N := 14) hx hb hts iX5_read_5 hown hN.1 hP 0 rfl rfl 0 (by decide) (hts _ mX5_read_1) (fun _ h9 => h9) rfl dX5_read_4 ?_
  obtain ⟨hb5380, e5380, hat5380, hk5380⟩ := hT.o16 t5379_0.1
  obtain ⟨g5380, rfl⟩ := hk5380
  have hP : va_P D vwCl [(f5379_0, .inl (cs 1, 600, .inl g5380)), (w, .inr (5, [.ref f5379_0, .int (nI ((κ w).2.2.1)), .int (nI f5379_2), .int (nI f5379_3), .int f5379_4, .int (nI f5379_5), .int f5379_6, .int f5379_7, .int f5379_8, .ref f5379_9, .int (nI f5379_10), f5379_11, .int f5379_12, .int f5379_13]))] _ := va_P.cons hat5380 hP
  refine va_alen (v := 600) hx hb hN.1 hP 0 1 rfl rfl rfl dX5_read_7 ?_
  refine va_mmin hx hb (hml.trans hl.1.symm) hown (hts _ mX5_read_2) (hts _ mX5_read_3) (hts _ mX5_read_4) (hts _ mX5_read_5) (Nat.le_of_ble_eq_true rfl) (Nat.le_of_ble_eq_true rfl) (Nat.zero_le _) (Nat.zero_le _) dX5_read_8 ?_
  obtain ⟨m5381, hm5381, em5381⟩ := nI_min (a := n) (b := 600) (by omega) (by omega)
  refine tp_i (nI m5381) em5381 ?_
  refine va_mmax hx hb (hml.trans hl.1.symm) hown (hts _ mX5_read_6) (hts _ mX5_read_7) (hts _ mX5_read_4) (hts _ mX5_read_8) (Nat.le_of_ble_eq_true rfl) (Nat.le_of_ble_eq_true rfl) (Nat.zero_le _) (Nat.zero_le _) dX5_read_11 ?_
  obtain ⟨m5382, hm5382, em5382⟩ := nI_max (a := 0) (b := m5381) (by omega) (by omega)
  refine tp_i (nI m5382) em5382 ?_
  have hB : Bx B0 D _ [(f5379_0, .inl (cs 1, 600, .inl g5380)), (w, .inr (5, [.ref f5379_0, .int (nI ((κ w).2.2.1)), .int (nI f5379_2), .int (nI f5379_3), .int f5379_4, .int (nI f5379_5), .int f5379_6, .int f5379_7, .int f5379_8, .ref f5379_9, .int (nI f5379_10), f5379_11, .int f5379_12, .int f5379_13]))] [] _ _ := Bx.of (fun a => (κ a).1) hL hP (fa_c hb5380 (fa_c hb5379 fa_n)) (by simp only [List.map_cons, List.map_nil, t5379_0.1, hw.1]; decide)
  refine b_put (D := D) (ci := 5) (v := .int (nI m5382)) (ty := .int) (C := RX5) (T := TX5) (N := 14) hx hb hts iX5_read_5 tyX5 tyX5_ok nmX5 hown hN hB 1 rfl rfl 2 (by decide) (hts _ mX5_read_9) (fun _ h9 => h9) rfl (by decide +kernel) rfl rfl (Nat.le_of_ble_eq_true rfl) (.inl rfl) dX5_read_14 (fun H locs hB => ?_)
  have hB : Bx B0 D _ [(f5379_0, .inl (cs 1, 600, .inl g5380)), (w, .inr (5, [.ref f5379_0, .int (nI ((κ w).2.2.1)), .int (nI m5382), .int (nI f5379_3), .int f5379_4, .int (nI f5379_5), .int f5379_6, .int f5379_7, .int f5379_8, .ref f5379_9, .int (nI f5379_10), f5379_11, .int f5379_12, .int f5379_13]))] [w] _ _ := hB
  refine lv_aload_n hx hb dX5_read_17 rfl (lv_at hl 0 rfl) ?_
  refine lv_iconst (v := 0) hx hb dX5_read_18 (by decide) ?_
  refine tp_i (nI 0) rfl ?_
  refine b_put (D := D) (ci := 5) (v := .int (nI 0)) (ty := .int) (C := RX5) (T := TX5) (N := 14) hx hb hts iX5_read_5 tyX5 tyX5_ok nmX5 hown hN hB 1 rfl rfl 1 (by decide) (hts _ mX5_read_10) (fun _ h9 => h9) rfl (by decide +kernel) rfl rfl (Nat.le_of_ble_eq_true rfl) (.inr ⟨rfl, List.mem_of_getElem? (i := 0) rfl⟩) dX5_read_19 (fun H locs hB => ?_)
  have hB : Bx B0 D _ [(f5379_0, .inl (cs 1, 600, .inl g5380)), (w, .inr (5, [.ref f5379_0, .int (nI 0), .int (nI m5382), .int (nI f5379_3), .int f5379_4, .int (nI f5379_5), .int f5379_6, .int f5379_7, .int f5379_8, .ref f5379_9, .int (nI f5379_10), f5379_11, .int f5379_12, .int f5379_13]))] [w] _ _ := hB
  refine lv_aload_n hx hb dX5_read_22 rfl (lv_at hl 0 rfl) ?_
  refine lv_iconst (v := 0) hx hb dX5_read_23 (by decide) ?_
  refine tp_i (nI 0) rfl ?_
  refine b_put (D := D) (ci := 5) (v := .int (nI 0)) (ty := .int) (C := RX5) (T := TX5) (N := 14) hx hb hts iX5_read_5 tyX5 tyX5_ok nmX5 hown hN hB 1 rfl rfl 3 (by decide) (hts _ mX5_read_11) (fun _ h9 => h9) rfl (by decide +kernel) rfl rfl (Nat.le_of_ble_eq_true rfl) (.inr ⟨rfl, List.mem_of_getElem? (i := 0) rfl⟩) dX5_read_24 (fun H locs hB => ?_)
  have hB : Bx B0 D _ [(f5379_0, .inl (cs 1, 600, .inl g5380)), (w, .inr (5, [.ref f5379_0, .int (nI 0), .int (nI m5382), .int (nI 0), .int f5379_4, .int (nI f5379_5), .int f5379_6, .int f5379_7, .int f5379_8, .ref f5379_9, .int (nI f5379_10), f5379_11, .int f5379_12, .int f5379_13]))] [w] _ _ := hB
  refine lv_aload_n hx hb dX5_read_27 rfl (lv_at hl 0 rfl) ?_
  refine lv_iconst (v := 0) hx hb dX5_read_28 (by decide) ?_
  refine tp_i (nI 0) rfl ?_
  refine b_put (D := D) (ci := 5) (v := .int (nI 0)) (ty := .int) (C := RX5) (T := TX5) (N := 14) hx hb hts iX5_read_5 tyX5 tyX5_ok nmX5 hown hN hB 1 rfl rfl 10 (by decide) (hts _ mX5_read_12) (fun _ h9 => h9) rfl (by decide +kernel) rfl rfl (Nat.le_of_ble_eq_true rfl) (.inr ⟨rfl, List.mem_of_getElem? (i := 0) rfl⟩) dX5_read_29 (fun H locs hB => ?_)
  have hB : Bx B0 D _ [(f5379_0, .inl (cs 1, 600, .inl g5380)), (w, .inr (5, [.ref f5379_0, .int (nI 0), .int (nI m5382), .int (nI 0), .int f5379_4, .int (nI f5379_5), .int f5379_6, .int f5379_7, .int f5379_8, .ref f5379_9, .int (nI 0), f5379_11, .int f5379_12, .int f5379_13]))] [w] _ _ := hB
  refine lv_aload_n hx hb dX5_read_32 rfl (lv_at hl 0 rfl) ?_
  refine lv_iconst (v := (-1)) hx hb dX5_read_33 (by decide) ?_
  refine b_put (D := D) (ci := 5) (v := .int (-1)) (ty := .int) (C := RX5) (T := TX5) (N := 14) hx hb hts iX5_read_5 tyX5 tyX5_ok nmX5 hown hN hB 1 rfl rfl 13 (by decide) (hts _ mX5_read_13) (fun _ h9 => h9) rfl (by decide +kernel) rfl rfl (Nat.le_of_ble_eq_true rfl) (.inr ⟨rfl, List.mem_of_getElem? (i := 0) rfl⟩) dX5_read_34 (fun H locs hB => ?_)
  have hB : Bx B0 D _ [(f5379_0, .inl (cs 1, 600, .inl g5380)), (w, .inr (5, [.ref f5379_0, .int (nI 0), .int (nI m5382), .int (nI 0), .int f5379_4, .int (nI f5379_5), .int f5379_6, .int f5379_7, .int f5379_8, .ref f5379_9, .int (nI 0), f5379_11, .int f5379_12, .int (-1)]))] [w] _ _ := hB
  have hF : Fr B0 [10, 11] κ H0 _ := hF.close hB (fa_c (by simp [hw.2]) fa_n)
  have hT : WT B0 D cs T (kp κ w 0 0) _ := hT.closeK w 0 0 hB (by rw [hw.1]; decide) (by rw [hw.1]; decide) (List.mem_of_getElem? (i := 0) rfl) ⟨⟨1, _, rfl, kp_ok (ok_6 (k := ((κ w).1, (κ w).2.1, _, _)) hw.1 ⟨_, _, _, _, _, _, _, _, _, _, _, _, _, rfl, (by show 0 ≤ 600; omega), (by omega), (by omega), (by omega), (by omega), (t2kp t5379_0), (t2kp t5379_9), (kp_su c5379_11), (Or.inl rfl)⟩)⟩, trivial⟩
  have hL : OkL B0 _ := hB.2.2.2.2.2
  have hP : va_P D vwCl [(f5379_0, .inl (cs 1, 600, .inl g5380)), (w, .inr (5, [.ref f5379_0, .int (nI 0), .int (nI m5382), .int (nI 0), .int f5379_4, .int (nI f5379_5), .int f5379_6, .int f5379_7, .int f5379_8, .ref f5379_9, .int (nI 0), f5379_11, .int f5379_12, .int (-1)]))] _ := hB.1
  obtain ⟨κ5383, hκ5383⟩ : ∃ κ9 : KM, κ9 = (kp κ w 0 0) := ⟨_, rfl⟩
  have hxf5383 : KF κ κ5383 := by rw [hκ5383]; exact KF.kp
  rw [← hκ5383] at hT
  have hKF : KF κ κ5383 := hxf5383
  have hw := (KF.t2 hxf5383 hw (by decide))
  have hKW : ∀ a, (κ a).1 ≠ 0 → a ≠ w → κ5383 a = κ a := fun a _ h9 => by rw [hκ5383, kp_n h9]
  have hw1 : (κ5383 w).2.2.1 = 0 := by rw [hκ5383, kp_a]
  refine lv_aload_n hx hb dX5_read_37 rfl (lv_at hl 0 rfl) ?_
  refine cv_v (As := []) (rest := []) (b := w) ⟨hx, hb, hml, hown, hts⟩ (c_X5_step hT (w := w) hw) (cwV 0 hts gX5_read_X5_step rfl rfl rfl hdX5_step_v ⟨Nat.le_of_ble_eq_true rfl, Nat.le_of_ble_eq_true rfl⟩) hN hE hL (rcv6 hN hT hw.1) rfl rfl hl.1 (Nat.le_of_ble_eq_true rfl) dX5_read_38 (Nat.zero_le _) (Nat.zero_le _) (fun H1 locs hL hqr5384 => ?_)
  obtain ⟨hT1, hF1, hqr5384⟩ := hqr5384
  have hF := hF.tr ((hF1.kf hKF).mono (by simp))
  have hT := hT1
  have f5385 := hqr5384
  refine lv_aload_n hx hb dX5_read_41 rfl (lv_at hl 0 rfl) ?_
  refine va_ldcS hx hb hown (hN.s 1 rfl) dX5_read_42 ?_
  refine cv_i (As := [.ref (cs 101)]) (rest := []) (b := w) ⟨hx, hb, hml, hown, hts⟩ (c_X5_takeWord hT (w := w) hw (i := 1) (by decide)) (cwV 1 hts gX5_read_X5_takeWord rfl rfl rfl hdX5_takeWord_v ⟨Nat.le_of_ble_eq_true rfl, Nat.le_of_ble_eq_true rfl⟩) hN hE hL (rcv6 hN hT hw.1) rfl rfl hl.1 (Nat.le_of_ble_eq_true rfl) dX5_read_44 (Nat.zero_le _) (Nat.zero_le _) (fun r5386 H1 locs hL hqr5386 => ?_)
  obtain ⟨hT1, hF1, hqr5386⟩ := hqr5386
  have hF := hF.tr ((hF1.kf hKF).mono (by simp))
  have hT := hT1
  rcases hqr5386 with rfl | rfl
  · refine lv_if_eq (tgt := 60) hx hb dX5_read_47 (by decide) (fun _ => ?_) (fun c9 => absurd (by decide) c9)
    refine lv_null hx hb dX5_read_60 ?_
    refine W.know (fun hg => ?_)
    rw [hH0] at hg
    exact en_n hx hb hr hlocks (by first | exact Or.inl ⟨_, rfl⟩ | exact Or.inr ⟨_, rfl⟩) hL (Nat.zero_le _) (Nat.zero_le _) (Or.inl rfl) dX5_read_61 (⟨κ5383, (fun a h1 h2 _ => hKW a h1 h2), (fun a h1 => (hKF a h1).1), hw, hw1, hT, hF, hg.mono (by omega) (by omega), Or.inl rfl⟩)
  · refine lv_if_eq (tgt := 60) hx hb dX5_read_47 (by decide) (fun c9 => absurd c9 (by decide)) (fun _ => ?_)
    refine lv_aload_n hx hb dX5_read_50 rfl (lv_at hl 0 rfl) ?_
    refine lv_iconst (v := 1) hx hb dX5_read_51 (by decide) ?_
    refine lv_bipush (v := 8) hx hb dX5_read_52 (by decide) ?_
    refine cv_i (As := [.int 1, .int 8]) (rest := []) (b := w) ⟨hx, hb, hml, hown, hts⟩ (c_X5_takeNumber hT (w := w) hw (x := 1) (y := 8)) (cwV 2 hts gX5_read_X5_takeNumber rfl rfl rfl hdX5_takeNumber_v ⟨Nat.le_of_ble_eq_true rfl, Nat.le_of_ble_eq_true rfl⟩) hN hE hL (rcv6 hN hT hw.1) rfl rfl hl.1 (Nat.le_of_ble_eq_true rfl) dX5_read_54 (Nat.zero_le _) (Nat.zero_le _) (fun r5387 H1 locs hL hqr5387 => ?_)
    obtain ⟨hT1, hF1, hqr5387⟩ := hqr5387
    have hF := hF.tr ((hF1.kf hKF).mono (by simp))
    have hT := hT1
    rcases hqr5387 with rfl | ⟨rfl, v5388, l5389, g5390, f5391⟩
    · refine lv_if_ne (tgt := 62) hx hb dX5_read_57 (by decide) (fun c9 => absurd (by decide) c9) (fun _ => ?_)
      refine lv_null hx hb dX5_read_60 ?_
      refine W.know (fun hg => ?_)
      rw [hH0] at hg
      exact en_n hx hb hr hlocks (by first | exact Or.inl ⟨_, rfl⟩ | exact Or.inr ⟨_, rfl⟩) hL (Nat.zero_le _) (Nat.zero_le _) (Or.inl rfl) dX5_read_61 (⟨κ5383, (fun a h1 h2 _ => hKW a h1 h2), (fun a h1 => (hKF a h1).1), hw, hw1, hT, hF, hg.mono (by omega) (by omega), Or.inl rfl⟩)
    · obtain ⟨n5392, hn5392a, hn5392b, rfl⟩ := rng (x := v5388) (lo := 1) (hi := 8) (by decide) (by decide) l5389 g5390
      refine lv_if_ne (tgt := 62) hx hb dX5_read_57 (by decide) (fun _ => ?_) (fun c9 => absurd c9 (by decide))
      refine lv_aload_n hx hb dX5_read_62 rfl (lv_at hl 0 rfl) ?_
      have hb0 : B0 ≤ _ := hT.b0 hw (by decide)
      have hP : va_P D vwCl [] _ := hT.nil
      have hB : Bx B0 D _ [] [] _ _ := Bx.of (fun a => (κ5383 a).1) hL hP fa_n (by simp only [List.map_cons, List.map_nil, ]; decide)
      refine nw_o (ci := 6) (fs := [.int 0, .int 0, .int 0, .null, .null, .null, .null, .null]) (C := RX6) (T := TX6) (N := 8) hx hb hts iX5_read_6 tyX6 tyX6_ok hown (hts _ mX5_read_14) (hts _ mX5_read_15) (hts _ mX5_read_16) hN rfl dfl6 (show 0 + 1 ≤ 11 by omega) (show 0 + 8 ≤ 1332 by omega) dX5_read_63 (fun q5393 H heq5393 hzq5393 hoq5393 hatq5393 => ?_)
      have hgeq5393 : _ ≤ q5393 := Nat.le_trans hB.2.2.1 (Nat.le_of_eq heq5393.symm)
      have hbq5393 : B0 ≤ q5393 := Nat.le_trans hb0 hgeq5393
      have hfq5393 : (κ5383 q5393).1 = 0 := hT.fresh hgeq5393
      have hB := hB.nw heq5393 hzq5393 hoq5393 hatq5393 hb0
      have hB : Bx B0 D _ [(q5393, .inr (6, [.int 0, .int 0, .int 0, .null, .null, .null, .null, .null]))] [] _ _ := hB
      have hT0 := hT
      refine lv_dup hx hb dX5_read_66 rfl ?_
      refine lv_aload_n hx hb dX5_read_67 rfl (lv_at hl 0 rfl) ?_
      obtain ⟨hb5394, e5394, hat5394, hk5394⟩ := hT.o6 hw.1
      obtain ⟨f5394_0, f5394_2, f5394_3, f5394_4, f5394_5, f5394_6, f5394_7, f5394_8, f5394_9, f5394_10, f5394_11, f5394_12, f5394_13, rfl, c5394_1, c5394_2, c5394_3, c5394_5, c5394_10, t5394_0, t5394_9, c5394_11, c5394_p2⟩ := hk5394
      obtain rfl : f5394_7 = nI n5392 := Value.int.inj (f5391.eq hat5394 rfl (by decide) rfl)
      have hB : Bx B0 D _ [(q5393, .inr (6, [.int 0, .int 0, .int 0, .null, .null, .null, .null, .null])), (w, .inr (5, [.ref f5394_0, .int (nI ((κ5383 w).2.2.1)), .int (nI f5394_2), .int (nI f5394_3), .int f5394_4, .int (nI f5394_5), .int f5394_6, .int (nI n5392), .int f5394_8, .ref f5394_9, .int (nI f5394_10), f5394_11, .int f5394_12, .int f5394_13]))] [] _ _ := hB.more hat5394 hb5394 (fa_c (nw_ne hat5394 hgeq5393) fa_n) fa_n
      refine va_get (D := D) (ci := 5) (v := .int (nI n5392)) (C := RX5) (T := TX5) (N := 14) hx hb hts iX5_read_5 hown hN.1 hB.1 1 rfl rfl 7 (by decide) (hts _ mX5_read_17) (fun _ h9 => h9) rfl dX5_read_68 ?_
      have hwO := hw
      have hKFO := hKF
      have hT : WT B0 D cs T κ5383 _ := hT.close hB trivial
      have hF : Fr B0 [10, 11] κ H0 _ := hF.closeN hB fa_n
      have hL : OkL B0 _ := hB.2.2.2.2.2
      have hP : va_P D vwCl [(q5393, .inr (6, [.int 0, .int 0, .int 0, .null, .null, .null, .null, .null])), (w, .inr (5, [.ref f5394_0, .int (nI ((κ5383 w).2.2.1)), .int (nI f5394_2), .int (nI f5394_3), .int f5394_4, .int (nI f5394_5), .int f5394_6, .int (nI n5392), .int f5394_8, .ref f5394_9, .int (nI f5394_10), f5394_11, .int f5394_12, .int f5394_13]))] _ := hB.1
      refine ci_v (As := [.int (nI n5392)]) (rest := [.ref q5393, .ref w]) (b := q5393) ⟨hx, hb, hml, hown, hts⟩ (c_X6_init hT (w := q5393) hfq5393 hbq5393 (hP 0 _ rfl) (n := n5392) (by first | omega | decide | assumption)) (cwI 1 hts gX5_read_X6_init rfl rfl rfl (hts _ mX5_read_16) (hts _ mX5_read_95) (hts _ mX5_read_96) rfl hdX6_init_o ⟨Nat.le_of_ble_eq_true rfl, Nat.le_of_ble_eq_true rfl⟩) hN hE hL rfl rfl hl.1 (Nat.le_of_ble_eq_true rfl) dX5_read_71 (show 1 + 4 ≤ 11 by omega) (show (0 + 8) + 88 ≤ 1332 by omega) (fun H1 locs hL hqr5395 => ?_)
      obtain ⟨κr5395, hxr5395, hT1, hF1, hqr5395⟩ := hqr5395
      have hF := hF.tr ((hF1.kf hKF).mono (by simp))
      have hT := hT1
      have hKF := hKF.tr hxr5395.f
      have hw := (hxr5395.f.t2 hw (by decide))
      obtain ⟨hq5393, hqr5395⟩ := hqr5395
      have ekq5393 := hqr5395
      have ew9 : κr5395 w = _ := hxr5395 w (by rw [hwO.1]; decide)
      have hKW : ∀ a, (κ a).1 ≠ 0 → a ≠ w → κr5395 a = κ a := fun a h1 h2 => (hxr5395 a (by rw [hKW a h1 h2]; exact h1)).trans (hKW a h1 h2)
      have hw1 : (κr5395 w).2.2.1 = 0 := by rw [ew9]; exact hw1
      have hsf : (κ q5393).1 = 0 := by have h9 := hfq5393; by_cases h8 : (κ q5393).1 = 0; exact h8; rw [(hKFO _ h8).1] at h9; exact h9
      have hq0 : ¬ q5393 = 0 := by have h9 := hT0.lt hwO (by decide); omega
      have hqw : q5393 ≠ w := ne_c hq5393.1 hw.1 (by decide)
      obtain ⟨hb5396, e5396, hat5396, hk5396⟩ := hT.o6 hw.1
      obtain ⟨f5396_0, f5396_2, f5396_3, f5396_4, f5396_5, f5396_6, f5396_7, f5396_8, f5396_9, f5396_10, f5396_11, f5396_12, f5396_13, rfl, c5396_1, c5396_2, c5396_3, c5396_5, c5396_10, t5396_0, t5396_9, c5396_11, c5396_p2⟩ := hk5396
      have hP : va_P D vwCl [(w, .inr (5, [.ref f5396_0, .int (nI ((κr5395 w).2.2.1)), .int (nI f5396_2), .int (nI f5396_3), .int f5396_4, .int (nI f5396_5), .int f5396_6, .int f5396_7, .int f5396_8, .ref f5396_9, .int (nI f5396_10), f5396_11, .int f5396_12, .int f5396_13]))] _ := va_P.cons hat5396 va_P.nil
      have hB : Bx B0 D _ [(w, .inr (5, [.ref f5396_0, .int (nI ((κr5395 w).2.2.1)), .int (nI f5396_2), .int (nI f5396_3), .int f5396_4, .int (nI f5396_5), .int f5396_6, .int f5396_7, .int f5396_8, .ref f5396_9, .int (nI f5396_10), f5396_11, .int f5396_12, .int f5396_13]))] [] _ _ := Bx.of (fun a => (κr5395 a).1) hL hP (fa_c hb5396 fa_n) (by simp only [List.map_cons, List.map_nil, hw.1]; decide)
      refine b_put (D := D) (ci := 5) (v := .ref q5393) (ty := .object "OneBeat$Setup") (C := RX5) (T := TX5) (N := 14) hx hb hts iX5_read_5 tyX5 tyX5_ok nmX5 hown hN hB 0 rfl rfl 11 (by decide) (hts _ mX5_read_18) (fun _ h9 => h9) rfl (by decide +kernel) rfl rfl (Nat.le_of_ble_eq_true rfl) (.inl rfl) dX5_read_74 (fun H locs hB => ?_)
      have hB : Bx B0 D _ [(w, .inr (5, [.ref f5396_0, .int (nI ((κr5395 w).2.2.1)), .int (nI f5396_2), .int (nI f5396_3), .int f5396_4, .int (nI f5396_5), .int f5396_6, .int f5396_7, .int f5396_8, .ref f5396_9, .int (nI f5396_10), .ref q5393, .int f5396_12, .int f5396_13]))] [w] _ _ := hB
      have hqO := hq5393
      have hF : Fr B0 [10, 11] κ H0 _ := hF.closeN hB (fa_c (fun h9 => by rw [← (hKF _ h9).2, hw.2]; simp) fa_n)
      have hT : WT B0 D cs T (kp κr5395 w (κr5395 w).2.2.1 q5393) _ := hT.closeK w (κr5395 w).2.2.1 q5393 hB (by rw [hw.1]; decide) (by rw [hw.1]; decide) (List.mem_of_getElem? (i := 0) rfl) ⟨⟨0, _, rfl, kp_ok (ok_6 (k := ((κr5395 w).1, (κr5395 w).2.1, _, _)) hw.1 ⟨_, _, _, _, _, _, _, _, _, _, _, _, _, rfl, (by show (κr5395 w).2.2.1 ≤ 600; omega), (by omega), (by omega), (by omega), (by omega), (t2kp t5396_0), (t2kp t5396_9), (kp_su (Or.inr ⟨_, rfl, hq5393.1⟩)), (Or.inr rfl)⟩)⟩, trivial⟩
      have hL : OkL B0 _ := hB.2.2.2.2.2
      have hP : va_P D vwCl [(w, .inr (5, [.ref f5396_0, .int (nI ((κr5395 w).2.2.1)), .int (nI f5396_2), .int (nI f5396_3), .int f5396_4, .int (nI f5396_5), .int f5396_6, .int f5396_7, .int f5396_8, .ref f5396_9, .int (nI f5396_10), .ref q5393, .int f5396_12, .int f5396_13]))] _ := hB.1
      obtain ⟨κ5397, hκ5397⟩ : ∃ κ9 : KM, κ9 = (kp κr5395 w (κr5395 w).2.2.1 q5393) := ⟨_, rfl⟩
      have hxf5397 : KF κr5395 κ5397 := by rw [hκ5397]; exact KF.kp
      rw [← hκ5397] at hT
      have hKF := hKF.tr hxf5397
      have hw := (KF.t2 hxf5397 hw (by decide))
      have hKW : ∀ a, (κ a).1 ≠ 0 → a ≠ w → κ5397 a = κ a := fun a h1 h9 => by rw [hκ5397, kp_n h9]; exact hKW a h1 h9
      have hw1 : (κ5397 w).2.2.1 = 0 := by rw [hκ5397, kp_a]; exact hw1
      have ewq : (κ5397 w).2.2.2 = q5393 := by rw [hκ5397, kp_a]
      have hsf : (κ (κ5397 w).2.2.2).1 = 0 := by rw [ewq]; exact hsf
      have hs0 : ¬ (κ5397 w).2.2.2 = 0 := by rw [ewq]; exact hq0
      have hsu : T2 κ5397 (κ5397 w).2.2.2 7 11 := by rw [ewq]; exact hxf5397.t2 hqO (by decide)
      have hp1 : (κ5397 (κ5397 w).2.2.2).2.2.1 ≠ 1 := by rw [ewq, hκ5397, kp_n hqw, ekq5393]; decide
      refine lv_aload_n hx hb dX5_read_77 rfl (lv_at hl 0 rfl) ?_
      refine lv_bipush (v := 59) hx hb dX5_read_78 (by decide) ?_
      refine cv_i (As := [.int 59]) (rest := []) (b := w) ⟨hx, hb, hml, hown, hts⟩ (c_X5_takeMark hT (w := w) hw (x := 59)) (cwV 1 hts gX5_read_X5_takeMark rfl rfl rfl hdX5_takeMark_v ⟨Nat.le_of_ble_eq_true rfl, Nat.le_of_ble_eq_true rfl⟩) hN hE hL (rcv6 hN hT hw.1) rfl rfl hl.1 (Nat.le_of_ble_eq_true rfl) dX5_read_80 (show 5 + 0 ≤ 11 by omega) (show ((0 + 8) + 88) + 0 ≤ 1332 by omega) (fun r5398 H1 locs hL hqr5398 => ?_)
      obtain ⟨hT1, hF1, hqr5398⟩ := hqr5398
      have hF := hF.tr ((hF1.kf hKF).mono (by simp))
      have hT := hT1
      rcases hqr5398 with rfl | rfl
      · refine lv_if_ne (tgt := 88) hx hb dX5_read_83 (by decide) (fun c9 => absurd (by decide) c9) (fun _ => ?_)
        refine lv_null hx hb dX5_read_86 ?_
        refine W.know (fun hg => ?_)
        rw [hH0] at hg
        exact en_n hx hb hr hlocks (by first | exact Or.inl ⟨_, rfl⟩ | exact Or.inr ⟨_, rfl⟩) hL (show 5 ≤ 11 by omega) (show ((0 + 8) + 88) ≤ 1332 by omega) (Or.inl rfl) dX5_read_87 (⟨κ5397, (fun a h1 h2 _ => hKW a h1 h2), (fun a h1 => (hKF a h1).1), hw, hw1, hT, hF, hg.mono (by omega) (by omega), Or.inl rfl⟩)
      · refine lv_if_ne (tgt := 88) hx hb dX5_read_83 (by decide) (fun _ => ?_) (fun c9 => absurd c9 (by decide))
        refine lv_iconst (v := 0) hx hb dX5_read_88 (by decide) ?_
        refine lv_istore_n (lv' := [(2, .int 0), (0, .ref w), (1, .int (nI n))]) hx hb dX5_read_89 rfl hl (by decide) rfl (fun ls hl => ?_)
        refine W.know (fun hg => ?_)
        rw [hH0] at hg
        have hgg : GG9 κ5397 w H0 _ := Or.inl ⟨hp1, hg.mono (by omega) (by omega)⟩
        refine W.tight (k := 8) (n := 714) (by rw [hH0]; exact hgg.all) ?_
        refine lp_m (α := Nat × KM) (nL := 3) (fun a9 => 600 - a9.1) (fun a9 H9 l9 => (a9.1 ≤ 600) ∧ (∀ a, (κ a).1 ≠ 0 → a ≠ w → a9.2 a = κ a) ∧ (KF κ a9.2) ∧ (T2 a9.2 w 6 10) ∧ ((a9.2 w).2.2.1 = 0) ∧ ((κ (a9.2 w).2.2.2).1 = 0) ∧ (¬ (a9.2 w).2.2.2 = 0) ∧ (T2 a9.2 (a9.2 w).2.2.2 7 11) ∧ (GG9 a9.2 w H0 H9) ∧ (WT B0 D cs T a9.2 H9) ∧ (Fr B0 [10, 11] κ H0 H9) ∧ (OkL B0 l9)) (fun a9 => [(2, .int (nI a9.1)), (0, .ref w)]) ?_ (0, κ5397) _ _ _ ⟨(by show (0) ≤ 600; omega), hKW, hKF, hw, hw1, hsf, hs0, hsu, hgg, hT, hF, hL⟩ (lv_sub hl [0, 1] rfl)
        rintro ⟨k, κ9⟩ H locs ls ih5399 ⟨hk, hKW, hKF, hw, hw1, hsf, hs0, hsu, hgg, hT, hF, hL⟩ hl
        have hl : lv_has ls 3 [(2, .int (nI k)), (0, .ref w)] := hl
        have hk : k ≤ 600 := hk
        have hKW : ∀ a, (κ a).1 ≠ 0 → a ≠ w → κ9 a = κ a := hKW
        have hKF : KF κ κ9 := hKF
        have hw : T2 κ9 w 6 10 := hw
        have hw1 : (κ9 w).2.2.1 = 0 := hw1
        have hsf : (κ (κ9 w).2.2.2).1 = 0 := hsf
        have hs0 : ¬ (κ9 w).2.2.2 = 0 := hs0
        have hsu : T2 κ9 (κ9 w).2.2.2 7 11 := hsu
        have hgg : GG9 κ9 w H0 H := hgg
        have hT : WT B0 D cs T κ9 _ := hT
        refine lv_iload_n hx hb dX5_read_90 rfl (lv_at hl 0 rfl) ?_
        refine lv_sipush (v := 600) hx hb dX5_read_91 (by decide) ?_
        refine lv_icmp_ge (tgt := 128) hx hb dX5_read_94 (by decide) (fun c5400 => ?_) (fun c5400 => ?_)
        · have c5400 : 600 ≤ k := (nI_leI (a := 600) (b := k) (by omega) (by omega)).mp c5400
          refine lv_aload_n hx hb dX5_read_128 rfl (lv_at hl 1 rfl) ?_
          obtain ⟨hb5401, e5401, hat5401, hk5401⟩ := hT.o6 hw.1
          obtain ⟨f5401_0, f5401_2, f5401_3, f5401_4, f5401_5, f5401_6, f5401_7, f5401_8, f5401_9, f5401_10, f5401_11, f5401_12, f5401_13, rfl, c5401_1, c5401_2, c5401_3, c5401_5, c5401_10, t5401_0, t5401_9, c5401_11, c5401_p2⟩ := hk5401
          obtain rfl : f5401_11 = .ref (κ9 w).2.2.2 := c5401_p2.resolve_left hs0
          have hP : va_P D vwCl [(w, .inr (5, [.ref f5401_0, .int (nI ((κ9 w).2.2.1)), .int (nI f5401_2), .int (nI f5401_3), .int f5401_4, .int (nI f5401_5), .int f5401_6, .int f5401_7, .int f5401_8, .ref f5401_9, .int (nI f5401_10), .ref (κ9 w).2.2.2, .int f5401_12, .int f5401_13]))] _ := va_P.cons hat5401 va_P.nil
          refine va_get (D := D) (ci := 5) (v := .ref (κ9 w).2.2.2) (C := RX5) (T := TX5) (N := 14) hx hb hts iX5_read_5 hown hN.1 hP 0 rfl rfl 11 (by decide) (hts _ mX5_read_18) (fun _ h9 => h9) rfl dX5_read_129 ?_
          refine cv_v (As := []) (rest := []) (b := (κ9 w).2.2.2) ⟨hx, hb, hml, hown, hts⟩ (KC.grv (c_X6_fillIn hT (w := (κ9 w).2.2.2) hsu)) (cwV 0 hts gX5_read_X6_fillIn rfl rfl rfl hdX6_fillIn_v ⟨Nat.le_of_ble_eq_true rfl, Nat.le_of_ble_eq_true rfl⟩) hN hE hL (rcv7 hN hT hsu.1) rfl rfl hl.1 (Nat.le_of_ble_eq_true rfl) dX5_read_132 (show 8 + 0 ≤ 11 by omega) (show 714 + 0 ≤ 1332 by omega) (fun H1 locs hL hqr5402 => ?_)
          obtain ⟨hgr5402, hqr5402⟩ := hqr5402
          obtain ⟨hT1, hF1⟩ := hqr5402
          have hP : va_P D vwCl [(w, .inr (5, [.ref f5401_0, .int (nI ((κ9 w).2.2.1)), .int (nI f5401_2), .int (nI f5401_3), .int f5401_4, .int (nI f5401_5), .int f5401_6, .int f5401_7, .int f5401_8, .ref f5401_9, .int (nI f5401_10), .ref (κ9 w).2.2.2, .int f5401_12, .int f5401_13]))] _ := hF1.hP (hP.sub [0] rfl) (fa_c ⟨by rw [hw.1]; decide, by rw [hw.2]; first | decide | (simp; done) | (simp [h15a, h15b, h15c]; done) | (simp; omega)⟩ fa_n)
          have hF := hF.tr ((hF1.kf hKF).mono (by simp))
          have hT := hT1
          have hgg : GG9 κ9 w H0 _ := hgg.gr hgr5402
          refine lv_aload_n hx hb dX5_read_135 rfl (lv_at hl 1 rfl) ?_
          refine va_get (D := D) (ci := 5) (v := .ref (κ9 w).2.2.2) (C := RX5) (T := TX5) (N := 14) hx hb hts iX5_read_5 hown hN.1 hP 0 rfl rfl 11 (by decide) (hts _ mX5_read_18) (fun _ h9 => h9) rfl dX5_read_136 ?_
          refine W.know (fun hg => ?_)
          rw [hH0] at hg
          exact en_n hx hb hr hlocks (by first | exact Or.inl ⟨_, rfl⟩ | exact Or.inr ⟨_, rfl⟩) hL (show 8 ≤ 11 by omega) (show 714 ≤ 1332 by omega) (Or.inr ⟨_, rfl⟩) dX5_read_139 (⟨ro κ9, (fun a h1 h2 h3 => by rw [ro_n (by rw [hKW a h1 h2]; exact h3)]; exact hKW a h1 h2), (fun a h1 => (hKF a h1).1), (by rw [T2, ro_n (by rw [hw.2]; decide)]; exact hw), (by rw [ro_n (by rw [hw.2]; decide)]; exact hw1), hT.re, hF, hgg.all, Or.inr ⟨_, rfl, ro_t hsu⟩⟩)
        · have c5400 : ¬ 600 ≤ k := fun h9 => c5400 ((nI_leI (a := 600) (b := k) (by omega) (by omega)).mpr h9)
          refine lv_aload_n hx hb dX5_read_97 rfl (lv_at hl 1 rfl) ?_
          obtain ⟨hb5403, e5403, hat5403, hk5403⟩ := hT.o6 hw.1
          obtain ⟨f5403_0, f5403_2, f5403_3, f5403_4, f5403_5, f5403_6, f5403_7, f5403_8, f5403_9, f5403_10, f5403_11, f5403_12, f5403_13, rfl, c5403_1, c5403_2, c5403_3, c5403_5, c5403_10, t5403_0, t5403_9, c5403_11, c5403_p2⟩ := hk5403
          obtain rfl : f5403_11 = .ref (κ9 w).2.2.2 := c5403_p2.resolve_left hs0
          have hP : va_P D vwCl [(w, .inr (5, [.ref f5403_0, .int (nI ((κ9 w).2.2.1)), .int (nI f5403_2), .int (nI f5403_3), .int f5403_4, .int (nI f5403_5), .int f5403_6, .int f5403_7, .int f5403_8, .ref f5403_9, .int (nI f5403_10), .ref (κ9 w).2.2.2, .int f5403_12, .int f5403_13]))] _ := va_P.cons hat5403 va_P.nil
          refine va_get (D := D) (ci := 5) (v := .int f5403_4) (C := RX5) (T := TX5) (N := 14) hx hb hts iX5_read_5 hown hN.1 hP 0 rfl rfl 4 (by decide) (hts _ mX5_read_19) (fun _ h9 => h9) rfl dX5_read_98 ?_
          refine lv_if_eq (tgt := 128) hx hb dX5_read_101 (by decide) (fun c5404 => ?_) (fun c5404 => ?_)
          · refine lv_aload_n hx hb dX5_read_128 rfl (lv_at hl 1 rfl) ?_
            refine va_get (D := D) (ci := 5) (v := .ref (κ9 w).2.2.2) (C := RX5) (T := TX5) (N := 14) hx hb hts iX5_read_5 hown hN.1 hP 0 rfl rfl 11 (by decide) (hts _ mX5_read_18) (fun _ h9 => h9) rfl dX5_read_129 ?_
            refine cv_v (As := []) (rest := []) (b := (κ9 w).2.2.2) ⟨hx, hb, hml, hown, hts⟩ (KC.grv (c_X6_fillIn hT (w := (κ9 w).2.2.2) hsu)) (cwV 0 hts gX5_read_X6_fillIn rfl rfl rfl hdX6_fillIn_v ⟨Nat.le_of_ble_eq_true rfl, Nat.le_of_ble_eq_true rfl⟩) hN hE hL (rcv7 hN hT hsu.1) rfl rfl hl.1 (Nat.le_of_ble_eq_true rfl) dX5_read_132 (show 8 + 0 ≤ 11 by omega) (show 714 + 0 ≤ 1332 by omega) (fun H1 locs hL hqr5405 => ?_)
            obtain ⟨hgr5405, hqr5405⟩ := hqr5405
            obtain ⟨hT1, hF1⟩ := hqr5405
            have hP : va_P D vwCl [(w, .inr (5, [.ref f5403_0, .int (nI ((κ9 w).2.2.1)), .int (nI f5403_2), .int (nI f5403_3), .int f5403_4, .int (nI f5403_5), .int f5403_6, .int f5403_7, .int f5403_8, .ref f5403_9, .int (nI f5403_10), .ref (κ9 w).2.2.2, .int f5403_12, .int f5403_13]))] _ := hF1.hP (hP.sub [0] rfl) (fa_c ⟨by rw [hw.1]; decide, by rw [hw.2]; first | decide | (simp; done) | (simp [h15a, h15b, h15c]; done) | (simp; omega)⟩ fa_n)
            have hF := hF.tr ((hF1.kf hKF).mono (by simp))
            have hT := hT1
            have hgg : GG9 κ9 w H0 _ := hgg.gr hgr5405
            refine lv_aload_n hx hb dX5_read_135 rfl (lv_at hl 1 rfl) ?_
            refine va_get (D := D) (ci := 5) (v := .ref (κ9 w).2.2.2) (C := RX5) (T := TX5) (N := 14) hx hb hts iX5_read_5 hown hN.1 hP 0 rfl rfl 11 (by decide) (hts _ mX5_read_18) (fun _ h9 => h9) rfl dX5_read_136 ?_
            refine W.know (fun hg => ?_)
            rw [hH0] at hg
            exact en_n hx hb hr hlocks (by first | exact Or.inl ⟨_, rfl⟩ | exact Or.inr ⟨_, rfl⟩) hL (show 8 ≤ 11 by omega) (show 714 ≤ 1332 by omega) (Or.inr ⟨_, rfl⟩) dX5_read_139 (⟨ro κ9, (fun a h1 h2 h3 => by rw [ro_n (by rw [hKW a h1 h2]; exact h3)]; exact hKW a h1 h2), (fun a h1 => (hKF a h1).1), (by rw [T2, ro_n (by rw [hw.2]; decide)]; exact hw), (by rw [ro_n (by rw [hw.2]; decide)]; exact hw1), hT.re, hF, hgg.all, Or.inr ⟨_, rfl, ro_t hsu⟩⟩)
          · refine lv_aload_n hx hb dX5_read_104 rfl (lv_at hl 1 rfl) ?_
            refine cv_i (As := []) (rest := []) (b := w) ⟨hx, hb, hml, hown, hts⟩ (c_X5_readStatement hT (w := w) hw (by first | omega | decide | assumption) (by first | omega | decide | assumption)) (cwV 0 hts gX5_read_X5_readStatement rfl rfl rfl hdX5_readStatement_v ⟨Nat.le_of_ble_eq_true rfl, Nat.le_of_ble_eq_true rfl⟩) hN hE hL (rcv6 hN hT hw.1) rfl rfl hl.1 (Nat.le_of_ble_eq_true rfl) dX5_read_105 (show 8 + 3 ≤ 11 by omega) (show 714 + 618 ≤ 1332 by omega) (fun r5406 H1 locs hL hqr5406 => ?_)
            obtain ⟨κr5406, hxr5406, hT1, hF1, hsr5406, hqr5406⟩ := hqr5406
            have hF := hF.tr ((hF1.kf hKF).mono (by simp))
            have hT := hT1
            have hxfr5406 := KSF hxr5406 hsu hsr5406
            have ew9 : κr5406 w = κ9 w := hxr5406 w (by rw [hw.1]; decide) (ne_c hw.1 hsu.1 (by decide))
            have hKW : ∀ a, (κ a).1 ≠ 0 → a ≠ w → κr5406 a = κ a := fun a h1 h2 => (hxr5406 a (by rw [hKW a h1 h2]; exact h1) (fun e9 => h1 (by rw [e9]; exact hsf))).trans (hKW a h1 h2)
            obtain ⟨hgs, hqr5406⟩ := hqr5406
            have hgg : GG9 κr5406 w H0 _ := hgg.step ew9 hgs
            have hsf : (κ (κr5406 w).2.2.2).1 = 0 := by rw [ew9]; exact hsf
            have hs0 : ¬ (κr5406 w).2.2.2 = 0 := by rw [ew9]; exact hs0
            have hsu : T2 κr5406 (κr5406 w).2.2.2 7 11 := by rw [ew9]; exact hsr5406
            have hw1 : (κr5406 w).2.2.1 = 0 := by rw [ew9]; exact hw1
            have hKF := hKF.tr hxfr5406
            have hw := (KF.t2 hxfr5406 hw (by decide))
            rcases hqr5406 with rfl | rfl
            · refine lv_if_eq (tgt := 120) hx hb dX5_read_108 (by decide) (fun _ => ?_) (fun c9 => absurd (by decide) c9)
              refine lv_null hx hb dX5_read_120 ?_
              refine W.know (fun hg => ?_)
              rw [hH0] at hg
              exact en_n hx hb hr hlocks (by first | exact Or.inl ⟨_, rfl⟩ | exact Or.inr ⟨_, rfl⟩) hL (show 11 ≤ 11 by omega) (show (714 + 618) ≤ 1332 by omega) (Or.inl rfl) dX5_read_121 (⟨κr5406, (fun a h1 h2 _ => hKW a h1 h2), (fun a h1 => (hKF a h1).1), hw, hw1, hT, hF, hgg.all, Or.inl rfl⟩)
            · refine lv_if_eq (tgt := 120) hx hb dX5_read_108 (by decide) (fun c9 => absurd c9 (by decide)) (fun _ => ?_)
              refine lv_aload_n hx hb dX5_read_111 rfl (lv_at hl 1 rfl) ?_
              refine lv_bipush (v := 59) hx hb dX5_read_112 (by decide) ?_
              refine cv_i (As := [.int 59]) (rest := []) (b := w) ⟨hx, hb, hml, hown, hts⟩ (KC.gri (c_X5_takeMark hT (w := w) hw (x := 59))) (cwV 1 hts gX5_read_X5_takeMark rfl rfl rfl hdX5_takeMark_v ⟨Nat.le_of_ble_eq_true rfl, Nat.le_of_ble_eq_true rfl⟩) hN hE hL (rcv6 hN hT hw.1) rfl rfl hl.1 (Nat.le_of_ble_eq_true rfl) dX5_read_114 (show 11 + 0 ≤ 11 by omega) (show (714 + 618) + 0 ≤ 1332 by omega) (fun r5407 H1 locs hL hqr5407 => ?_)
              obtain ⟨hgr5407, hqr5407⟩ := hqr5407
              obtain ⟨hT1, hF1, hqr5407⟩ := hqr5407
              have hF := hF.tr ((hF1.kf hKF).mono (by simp))
              have hT := hT1
              have hgg : GG9 κr5406 w H0 _ := hgg.gr hgr5407
              rcases hqr5407 with rfl | rfl
              · refine lv_if_ne (tgt := 122) hx hb dX5_read_117 (by decide) (fun c9 => absurd (by decide) c9) (fun _ => ?_)
                refine lv_null hx hb dX5_read_120 ?_
                refine W.know (fun hg => ?_)
                rw [hH0] at hg
                exact en_n hx hb hr hlocks (by first | exact Or.inl ⟨_, rfl⟩ | exact Or.inr ⟨_, rfl⟩) hL (show 11 ≤ 11 by omega) (show (714 + 618) ≤ 1332 by omega) (Or.inl rfl) dX5_read_121 (⟨κr5406, (fun a h1 h2 _ => hKW a h1 h2), (fun a h1 => (hKF a h1).1), hw, hw1, hT, hF, hgg.all, Or.inl rfl⟩)
              · refine lv_if_ne (tgt := 122) hx hb dX5_read_117 (by decide) (fun _ => ?_) (fun c9 => absurd c9 (by decide))
                refine lv_iinc (v := (nI (k + 1))) (lv' := [(2, .int (nI (k + 1))), (0, .ref w)]) hx hb dX5_read_122 hl (k := 0) rfl (nI_add _ 1) (by decide) rfl (fun ls hl => ?_)
                refine lv_goto (tgt := 90) hx hb dX5_read_125 (by decide) ?_
                refine W.tight (k := 8) (n := 714) (by rw [hH0]; exact hgg.all) ?_
                exact ih5399 ((k + 1), κr5406) _ _ _ (by show 600 - ((k + 1)) < 600 - k; omega) ⟨(by show ((k + 1)) ≤ 600; omega), hKW, hKF, hw, hw1, hsf, hs0, hsu, hgg, hT, hF, hL⟩ (lv_sub hl [0, 1] rfl)
