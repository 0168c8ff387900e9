theorem mJ7_copyOf_59c91_7 : (.arrayClass .int : Cond) ∈ wsJ7_copyOf_59c91 := List.mem_of_getElem? (i := 7) (by decide +kernel)
theorem mJ7_copyOf_59c91_8 : (.methodLink RJ7 304 Lib.Math.min.name : Cond) ∈ wsJ7_copyOf_59c91 := List.mem_of_getElem? (i := 8) (by decide +kernel)
theorem mJ7_copyOf_59c91_9 : (.static Lib.Math.min.name : Cond) ∈ wsJ7_copyOf_59c91 := List.mem_of_getElem? (i := 9) (by decide +kernel)
theorem mJ7_copyOf_59c91_10 : (.initialized "java/lang/Math" : Cond) ∈ wsJ7_copyOf_59c91 := List.mem_of_getElem? (i := 10) (by decide +kernel)
theorem mJ7_copyOf_59c91_11 : (.code Lib.Math.min.name Lib.Math.min.code 2 (some .int) : Cond) ∈ wsJ7_copyOf_59c91 := List.mem_of_getElem? (i := 11) (by decide +kernel)
theorem mJ7_copyOf_59c91_12 : (.methodLink RJ7 150 arraycopyName : Cond) ∈ wsJ7_copyOf_59c91 := List.mem_of_getElem? (i := 12) (by decide +kernel)
theorem mJ7_copyOf_59c91_13 : (.native arraycopyName : Cond) ∈ wsJ7_copyOf_59c91 := List.mem_of_getElem? (i := 13) (by decide +kernel)
theorem mJ7_copyOf_59c91_14 : (.static arraycopyName : Cond) ∈ wsJ7_copyOf_59c91 := List.mem_of_getElem? (i := 14) (by decide +kernel)
theorem mJ7_copyOf_59c91_15 : (.initialized "java/lang/System" : Cond) ∈ wsJ7_copyOf_59c91 := List.mem_of_getElem? (i := 15) (by decide +kernel)
theorem mJ7_copyOf_59c91_1 : (.methodLink RJ7 316 ⟨"[I", "clone", "()Ljava/lang/Object;"⟩ : Cond) ∈ wsJ7_copyOf_59c91 := List.mem_of_getElem? (i := 1) (by decide +kernel)
theorem mJ7_copyOf_59c91_2 : (.sameMethod "[I" "java/lang/Object" "clone" "()Ljava/lang/Object;" : Cond) ∈ wsJ7_copyOf_59c91 := List.mem_of_getElem? (i := 2) (by decide +kernel)
theorem mJ7_copyOf_59c91_3 : (.native ⟨"java/lang/Object", "clone", "()Ljava/lang/Object;"⟩ : Cond) ∈ wsJ7_copyOf_59c91 := List.mem_of_getElem? (i := 3) (by decide +kernel)
theorem mJ7_copyOf_59c91_4 : (.instanceMethod ⟨"java/lang/Object", "clone", "()Ljava/lang/Object;"⟩ : Cond) ∈ wsJ7_copyOf_59c91 := List.mem_of_getElem? (i := 4) (by decide +kernel)
theorem mJ7_copyOf_59c91_5 : (.selects "[I" ⟨"[I", "clone", "()Ljava/lang/Object;"⟩ ⟨"java/lang/Object", "clone", "()Ljava/lang/Object;"⟩ : Cond) ∈ wsJ7_copyOf_59c91 := List.mem_of_getElem? (i := 5) (by decide +kernel)
theorem mJ7_copyOf_59c91_6 : (.classLink RJ7 317 "[I" : Cond) ∈ wsJ7_copyOf_59c91 := List.mem_of_getElem? (i := 6) (by decide +kernel)
set_option maxHeartbeats 4000000 in
set_option maxRecDepth 100000 in
theorem c_J7_copyOf_59c91 {l : Launch} {D : va_G} {cs : Nat → ClassId} {B0 : Nat} {H0 : Heap} {v n : Nat} {g : Nat → Int32} (hvb : B0 ≤ v) (hva : va_at D vwCl (v, .inl (cs 0, 600, .inl g)) H0) (hn : n ≤ 600) : KC l yJ7_copyOf_59c91 wsJ7_copyOf_59c91 1 60 1 600 D cs B0 H0 [.ref v, .int (nI n)] (Qr (fun r H => r = H0.size ∧ H.size = r + 1 ∧ (∀ x, x < r → H[x]? = H0[x]?) ∧ ∃ f, va_at D vwCl (r, .inl (cs 0, n, .inl f)) H)) := by
  refine KC.of cJ7_copyOf_59c91 3 (some (.array .int)) (by decide) rfl (Nat.le_of_ble_eq_true rfl) ?_
  intro p e s m below meth c ls hx hb hr hml hown hts hlocks hin hN hE hH0 hl
  have hown : s.vm.findClass RJ7 = some m.cls := hown
  have hl : lv_has ls 3 [(0, .ref v), (1, .int (nI n))] := hl
  have hL : OkL B0 [] := OkL.nil
  have hP : va_P D vwCl [(v, .inl (cs 0, 600, .inl g))] _ := va_P.cons hva va_P.nil
  have hb0 : B0 ≤ H0.size := Nat.le_trans hvb (Nat.le_of_lt hva.lt)
  refine lv_iload_n hx hb dJ7_copyOf_59c91_0 rfl (lv_at hl 1 rfl) ?_
  refine lv_aload_n hx hb dJ7_copyOf_59c91_1 rfl (lv_at hl 0 rfl) ?_
  refine va_alen (v := 600) hx hb hN.1 hP 0 0 rfl rfl rfl dJ7_copyOf_59c91_2 ?_
  refine lv_icmp_ne (tgt := 14) hx hb dJ7_copyOf_59c91_3 (by decide) (fun c5171 => ?_) (fun c5171 => ?_)
  · have c5171 : ¬ n = 600 := fun h9 => c5171 ((nI_eq (a := n) (b := 600) (by omega) (by omega)).mpr h9)
    refine lv_iload_n hx hb dJ7_copyOf_59c91_14 rfl (lv_at hl 1 rfl) ?_
    have hB : Bx B0 D _ [(v, .inl (cs 0, 600, .inl g))] [] _ _ := Bx.of (fun a => a) hL hP (fa_c hvb fa_n) (by simp)
    refine nw_a (atype := .int) (ty := .int) (N' := n) (a0 := (n, .inl (fun _ => 0))) 0 hN rfl hx hb (hts _ mJ7_copyOf_59c91_7) rfl (fun _ => rfl) (nI_pos (n := n) (by omega)) (nI_clamp (n := n) (by omega)) (show n * _ ≤ _ by simp only [componentBytes]; omega) (show 0 + 1 ≤ 1 by omega) (show 0 + n ≤ 600 by omega) dJ7_copyOf_59c91_15 (fun q5172 H heq5172 hzq5172 hoq5172 hatq5172 => ?_)
    have hB := hB.nwm heq5172 hzq5172 hoq5172 hatq5172 hb0
    have hB : Bx B0 D _ [(v, .inl (cs 0, 600, .inl g)), (q5172, .inl (cs 0, n, .inl (fun _ => 0)))] [q5172] _ _ := hB
    refine lv_astore_n (lv' := [(2, .ref q5172), (0, .ref v), (1, .int (nI n))]) hx hb dJ7_copyOf_59c91_17 rfl hl (by decide) rfl (fun ls hl => ?_)
    refine lv_aload_n hx hb dJ7_copyOf_59c91_18 rfl (lv_at hl 1 rfl) ?_
    refine lv_iconst (v := 0) hx hb dJ7_copyOf_59c91_19 (by decide) ?_
    refine lv_aload_n hx hb dJ7_copyOf_59c91_20 rfl (lv_at hl 0 rfl) ?_
    refine lv_iconst (v := 0) hx hb dJ7_copyOf_59c91_21 (by decide) ?_
    refine lv_aload_n hx hb dJ7_copyOf_59c91_22 rfl (lv_at hl 1 rfl) ?_
    refine va_alen (v := 600) hx hb hN.1 hB.1 0 0 rfl rfl rfl dJ7_copyOf_59c91_23 ?_
    refine lv_iload_n hx hb dJ7_copyOf_59c91_24 rfl (lv_at hl 2 rfl) ?_
    refine va_mmin hx hb (hml.trans hl.1.symm) hown (hts _ mJ7_copyOf_59c91_8) (hts _ mJ7_copyOf_59c91_9) (hts _ mJ7_copyOf_59c91_10) (hts _ mJ7_copyOf_59c91_11) (Nat.le_of_ble_eq_true rfl) (Nat.le_of_ble_eq_true rfl) (show 1 ≤ 1 by omega) (show (0 + n) ≤ 600 by omega) dJ7_copyOf_59c91_25 ?_
    obtain ⟨m5173, hm5173, em5173⟩ := nI_min (a := 600) (b := n) (by omega) (by omega)
    refine tp_i (nI m5173) em5173 ?_
    refine b_cpy hx hb (hml.trans hl.1.symm) hown (hts _ mJ7_copyOf_59c91_12) (hts _ mJ7_copyOf_59c91_13) (hts _ mJ7_copyOf_59c91_14) (hts _ mJ7_copyOf_59c91_15) hN hB 0 1 rfl rfl (nI_pos (n := 0) (by omega)) (nI_pos (n := 0) (by omega)) (nI_pos (n := m5173) (by omega)) (by rw [show (0 : Int32).toNatClampNeg = 0 from nI_clamp (n := 0) (by omega), show ((nI m5173) : Int32).toNatClampNeg = m5173 from nI_clamp (n := m5173) (by omega)]; omega) (by rw [show (0 : Int32).toNatClampNeg = 0 from nI_clamp (n := 0) (by omega), show ((nI m5173) : Int32).toNatClampNeg = m5173 from nI_clamp (n := m5173) (by omega)]; omega) (.inr ⟨rfl, List.mem_of_getElem? (i := 0) rfl⟩) (Nat.le_of_ble_eq_true rfl) (Nat.le_of_ble_eq_true rfl) dJ7_copyOf_59c91_28 (fun H locs hB => ?_)
    generalize va_cpy _ _ _ _ _ = g5174 at hB
    have hB : Bx B0 D _ [(v, .inl (cs 0, 600, .inl g)), (q5172, .inl (cs 0, n, .inl g5174))] [q5172] _ _ := hB
    refine lv_aload_n hx hb dJ7_copyOf_59c91_31 rfl (lv_at hl 0 rfl) ?_
    have hL : OkL B0 _ := hB.2.2.2.2.2
    refine W.know (fun hg => ?_)
    rw [hH0] at hg
    exact en_r hx hb hr hlocks (by first | exact Or.inl ⟨_, rfl⟩ | exact Or.inr ⟨_, rfl⟩) hL (show 1 ≤ 1 by omega) (show (0 + n) ≤ 600 by omega) dJ7_copyOf_59c91_32 (⟨heq5172, (by have h1 := hg.2.1; have h2 := (hB.1 1 _ rfl).lt; have h2 : q5172 < _ := h2; omega), (fun x hx9 => hB.2.2.2.1 x (by omega) (by simp; omega)), _, hB.1 1 _ rfl⟩)
  · have c5171 : n = 600 := (nI_eq (a := n) (b := 600) (by omega) (by omega)).mp c5171
    refine lv_aload_n hx hb dJ7_copyOf_59c91_6 rfl (lv_at hl 0 rfl) ?_
    refine nw_cl hx hb (hml.trans hl.1.symm) hown (hts _ mJ7_copyOf_59c91_1) (hts _ mJ7_copyOf_59c91_2) (hts _ mJ7_copyOf_59c91_3) (hts _ mJ7_copyOf_59c91_4) (hts _ mJ7_copyOf_59c91_5) hN (hP 0 _ rfl) (Nat.le_of_ble_eq_true rfl) (Nat.le_of_ble_eq_true rfl) (show 0 + 1 ≤ 1 by omega) (show 0 + 600 ≤ 600 by omega) dJ7_copyOf_59c91_7 (fun q5175 H heq5175 hzq5175 hoq5175 hatq5175 => ?_)
    refine nw_ca hx hb hown (hts _ mJ7_copyOf_59c91_6) hN hatq5175 dJ7_copyOf_59c91_10 ?_
    refine W.know (fun hg => ?_)
    rw [hH0] at hg
    obtain rfl : n = 600 := c5171
    exact en_r hx hb hr hlocks (by first | exact Or.inl ⟨_, rfl⟩ | exact Or.inr ⟨_, rfl⟩) hL (show 1 ≤ 1 by omega) (show (0 + 600) ≤ 600 by omega) dJ7_copyOf_59c91_13 (⟨heq5175, hzq5175, hoq5175, _, hatq5175⟩)
theorem mX0_init_1 : (.methodLink RX0 1 objectInit : Cond) ∈ wsX0_init := List.mem_of_getElem? (i := 1) (by decide +kernel)
theorem mX0_init_2 : (.instanceMethod objectInit : Cond) ∈ wsX0_init := List.mem_of_getElem? (i := 2) (by decide +kernel)
theorem mX0_init_3 : (.code objectInit ⟨#[0xb1]⟩ 1 none : Cond) ∈ wsX0_init := List.mem_of_getElem? (i := 3) (by decide +kernel)
theorem mX0_init_4 : (.arrayClass .int : Cond) ∈ wsX0_init := List.mem_of_getElem? (i := 4) (by decide +kernel)
theorem mX0_init_5 : (.fieldLink RX0 9 "OneBeat$Formula" "stack" "[I" : Cond) ∈ wsX0_init := List.mem_of_getElem? (i := 5) (by decide +kernel)
theorem iX0_init_0 : ∀ w ∈ wsX00, w ∈ wsX0_init := fun w h => List.mem_of_mem_drop (List.mem_of_mem_take ((show wsX00 = (wsX0_init.drop 25).take 2 by decide +kernel) ▸ h))
theorem hdJ7_copyOf_59c91_o : yJ7_copyOf_59c91.cls ≠ "java/lang/invoke/MethodHandle" ∧ yJ7_copyOf_59c91.cls ≠ "java/lang/invoke/VarHandle" ∧ (parseMethodDescriptor yJ7_copyOf_59c91.desc).map (fun d => d.parameters.length) = some 2 := by decide +kernel
theorem mX0_init_6 : (.fieldLink RX0 19 "OneBeat$Formula" "codes" "[I" : Cond) ∈ wsX0_init := List.mem_of_getElem? (i := 6) (by decide +kernel)
set_option maxHeartbeats 4000000 in
set_option maxRecDepth 100000 in
theorem c_X0_init {l : Launch} {D : va_G} {cs : Nat → ClassId} {B0 T : Nat} {κ : KM} {H0 : Heap} (hT : WT B0 D cs T κ H0) {w : Nat} (hfw : (κ w).1 = 0) (hwb : B0 ≤ w) (hwa : va_at D vwCl (w, .inr (0, [.null, .null])) H0) {v n : Nat} (hv : T2 κ v 17 10) (hn : n ≤ 600) : KC l yX0_init wsX0_init 2 82 2 616 D cs B0 H0 [.ref w, .ref v, .int (nI n)] (Qv (fun H => ∃ κ1, KX κ κ1 ∧ WT B0 D cs T κ1 H ∧ Fr B0 [] κ H0 H ∧ T2 κ1 w 1 15)) := by
  refine KC.of cX0_init 3 none (by decide) rfl (Nat.le_of_ble_eq_true rfl) ?_
  intro p e s m below meth c ls hx hb hr hml hown hts hlocks hin hN hE hH0 hl
  have hown : s.vm.findClass RX0 = some m.cls := hown
  have hl : lv_has ls 3 [(0, .ref w), (1, .ref v), (2, .int (nI n))] := hl
  have hL : OkL B0 [] := OkL.nil
  have hF : Fr B0 [] κ H0 H0 := Fr.rf
  have hP : va_P D vwCl [(w, .inr (0, [.null, .null]))] _ := va_P.cons hwa va_P.nil
  have hb0 : B0 ≤ H0.size := Nat.le_trans hwb (Nat.le_of_lt hwa.lt)
  refine lv_aload_n hx hb dX0_init_0 rfl (lv_at hl 0 rfl) ?_
  refine W.objInit hx hb hown (hts _ mX0_init_1) (hts _ mX0_init_2) (hts _ mX0_init_3) rfl (by rw [hml]; exact hl.1) rfl dX0_init_1 (Nat.le_of_ble_eq_true rfl) (Nat.le_of_ble_eq_true rfl) ?_
  refine W.eq (g2 := F0 m 4 ls []) rfl ?_
  refine lv_aload_n hx hb dX0_init_4 rfl (lv_at hl 0 rfl) ?_
  refine lv_bipush (v := 16) hx hb dX0_init_5 (by decide) ?_
  have hB : Bx B0 D _ [(w, .inr (0, [.null, .null]))] [] _ _ := Bx.of (fun a => (κ a).1) hL hP (fa_c hwb fa_n) (by simp only [List.map_cons, List.map_nil, hfw]; decide)
  refine nw_a (atype := .int) (ty := .int) (N' := 16) (a0 := (16, .inl (fun _ => 0))) 0 hN rfl hx hb (hts _ mX0_init_4) rfl (fun _ => rfl) (nI_pos (n := 16) (by omega)) (nI_clamp (n := 16) (by omega)) (show 16 * _ ≤ _ by simp only [componentBytes]; omega) (show 0 + 1 ≤ 2 by omega) (show 0 + 16 ≤ 616 by omega) dX0_init_7 (fun q5176 H heq5176 hzq5176 hoq5176 hatq5176 => ?_)
  have hgeq5176 : _ ≤ q5176 := Nat.le_trans hB.2.2.1 (Nat.le_of_eq heq5176.symm)
  have hbq5176 : B0 ≤ q5176 := Nat.le_trans hb0 hgeq5176
  have hfq5176 : (κ q5176).1 = 0 := hT.fresh hgeq5176
  have hB := hB.nwm heq5176 hzq5176 hoq5176 hatq5176 hb0
  have hB : Bx B0 D _ [(w, .inr (0, [.null, .null])), (q5176, .inl (cs 0, 16, .inl (fun _ => 0)))] [q5176] _ _ := hB
  refine b_putF (D := D) (ci := 0) (v := .ref q5176) (ty := .array .int) (C := RX0) (T := TX0) (N := 2) hx hb hts iX0_init_0 tyX0 tyX0_ok nmX0 hown hN hB 0 rfl rfl 1 (by decide) (hts _ mX0_init_5) (fun _ h9 => h9) rfl hin rfl (by decide +kernel) rfl rfl (Nat.le_of_ble_eq_true rfl) (.inl rfl) dX0_init_9 (fun H locs hB => ?_)
  have hB : Bx B0 D _ [(w, .inr (0, [.null, .ref q5176])), (q5176, .inl (cs 0, 16, .inl (fun _ => 0)))] [w, q5176] _ _ := hB
  refine lv_aload_n hx hb dX0_init_12 rfl (lv_at hl 0 rfl) ?_
  refine lv_aload_n hx hb dX0_init_13 rfl (lv_at hl 1 rfl) ?_
  refine lv_iload_n hx hb dX0_init_14 rfl (lv_at hl 2 rfl) ?_
  refine lv_if_ge (tgt := 22) hx hb dX0_init_15 (by decide) (fun c5177 => ?_) (fun c5177 => ?_)
  · have c5177 : 0 ≤ n := (nI_leI (a := 0) (b := n) (by omega) (by omega)).mp c5177
    refine lv_iload_n hx hb dX0_init_22 rfl (lv_at hl 2 rfl) ?_
    obtain ⟨hb5178, e5178, hat5178, hk5178⟩ := hT.o17 hv.1
    obtain ⟨g5178, rfl⟩ := hk5178
    have hB : Bx B0 D _ [(w, .inr (0, [.null, .ref q5176])), (q5176, .inl (cs 0, 16, .inl (fun _ => 0))), (v, .inl (cs 0, 600, .inl g5178))] [w, q5176] _ _ := hB.more hat5178 hb5178 (fa_c (ne_c hfw hv.1 (by decide))  (fa_c (nw_ne hat5178 hgeq5176) fa_n)) (fa_c (ne_c hfw hv.1 (by decide))  (fa_c (nw_ne hat5178 hgeq5176) fa_n))
    have hL : OkL B0 _ := hB.2.2.2.2.2
    refine cs_r (As := [.ref v, .int (nI n)]) (rest := [.ref w]) ⟨hx, hb, hml, hown, hts⟩ (c_J7_copyOf_59c91 (v := v) (n := n) hb5178 (hB.1 2 _ rfl) (by omega)) (va_cwS 2 hts gX0_init_J7_copyOf_59c91 rfl rfl rfl hdJ7_copyOf_59c91_o ⟨Nat.le_of_ble_eq_true rfl, Nat.le_of_ble_eq_true rfl⟩) hN hE hL rfl rfl hl.1 (Nat.le_of_ble_eq_true rfl) dX0_init_23 (show 1 + 1 ≤ 2 by omega) (show (0 + 16) + 600 ≤ 616 by omega) (fun q5179 H1 locs hL hqq5179 => ?_)
    obtain ⟨heq5179, hzq5179, hoq5179, gq5179, hatq5179⟩ := hqq5179
    have hB := hB.lc hL
    have hgeq5179 : _ ≤ q5179 := Nat.le_trans hB.2.2.1 (Nat.le_of_eq heq5179.symm)
    have hbq5179 : B0 ≤ q5179 := Nat.le_trans hb0 hgeq5179
    have hfq5179 : (κ q5179).1 = 0 := hT.fresh hgeq5179
    have hB := hB.nwm heq5179 hzq5179 hoq5179 hatq5179 hb0
    have hB : Bx B0 D _ [(w, .inr (0, [.null, .ref q5176])), (q5176, .inl (cs 0, 16, .inl (fun _ => 0))), (v, .inl (cs 0, 600, .inl g5178)), (q5179, .inl (cs 0, n, .inl gq5179))] [q5179, w, q5176] _ _ := hB
    refine b_putF (D := D) (ci := 0) (v := .ref q5179) (ty := .array .int) (C := RX0) (T := TX0) (N := 2) hx hb hts iX0_init_0 tyX0 tyX0_ok nmX0 hown hN hB 0 rfl rfl 0 (by decide) (hts _ mX0_init_6) (fun _ h9 => h9) rfl hin rfl (by decide +kernel) rfl rfl (Nat.le_of_ble_eq_true rfl) (.inr ⟨rfl, List.mem_of_getElem? (i := 1) rfl⟩) dX0_init_26 (fun H locs hB => ?_)
    have hB : Bx B0 D _ [(w, .inr (0, [.ref q5179, .ref q5176])), (q5176, .inl (cs 0, 16, .inl (fun _ => 0))), (v, .inl (cs 0, 600, .inl g5178)), (q5179, .inl (cs 0, n, .inl gq5179))] [q5179, w, q5176] _ _ := hB
    obtain ⟨κ5180, hκ5180⟩ : ∃ κ9 : KM, κ9 = (ku (ku (ku κ w (1, 15, 0, 0)) q5176 (22, 16, 0, 0)) q5179 (21, 15, 0, 0)) := ⟨_, rfl⟩
    have hx5180 : KX κ κ5180 := by rw [hκ5180]; exact (((KX.ku hfw).tr (KX.ku (by rw [ku_n (fun e9 => absurd (hB.2.1.1 1 0 _ _ rfl rfl e9) (by decide))]; exact hfq5176))).tr (KX.ku (by rw [ku_n (fun e9 => absurd (hB.2.1.1 3 1 _ _ rfl rfl e9) (by decide)), ku_n (fun e9 => absurd (hB.2.1.1 3 0 _ _ rfl rfl e9) (by decide))]; exact hfq5179)))
    have ew : κ5180 w = (1, 15, 0, 0) := by rw [hκ5180, ku_n (fun e9 => absurd (hB.2.1.1 0 3 _ _ rfl rfl e9) (by decide)), ku_n (fun e9 => absurd (hB.2.1.1 0 1 _ _ rfl rfl e9) (by decide)), ku_a]
    have hw : T2 κ5180 w 1 15 := ⟨by rw [ew], by rw [ew]⟩
    have eq5176 : κ5180 q5176 = (22, 16, 0, 0) := by rw [hκ5180, ku_n (fun e9 => absurd (hB.2.1.1 1 3 _ _ rfl rfl e9) (by decide)), ku_a]
    have hq5176 : T2 κ5180 q5176 22 16 := ⟨by rw [eq5176], by rw [eq5176]⟩
    have eq5179 : κ5180 q5179 = (21, 15, 0, 0) := by rw [hκ5180, ku_a]
    have hq5179 : T2 κ5180 q5179 21 15 := ⟨by rw [eq5179], by rw [eq5179]⟩
    have hx9 := hx5180
    have hT : WT B0 D cs T κ5180 _ := hT.closeN hB hx5180 (fun a9 h9 => by rw [hκ5180, ku_n (fun e9 => h9 (by rw [e9]; exact List.mem_of_getElem? (i := 0) rfl)), ku_n (fun e9 => h9 (by rw [e9]; exact List.mem_of_getElem? (i := 2) rfl)), ku_n (fun e9 => h9 (by rw [e9]; exact List.mem_of_getElem? (i := 1) rfl))]) ⟨⟨3, _, rfl, ok_21 hq5179.1 ⟨_, _, rfl, (by omega)⟩⟩, ⟨⟨0, _, rfl, ok_1 hw.1 ⟨_, _, rfl, hq5179, hq5176⟩⟩, ⟨⟨1, _, rfl, ok_22 hq5176.1 ⟨_, rfl⟩⟩, trivial⟩⟩⟩
    have hF : Fr B0 [] κ H0 _ := hF.closeN hB (fa_c (fun h9 => absurd hfq5179 h9) (fa_c (fun h9 => absurd hfw h9) (fa_c (fun h9 => absurd hfq5176 h9) fa_n)))
    have hL : OkL B0 _ := hB.2.2.2.2.2
    have hKF : KF κ κ5180 := hx5180.f
    have hKX : KX κ κ5180 := hx5180
    have hv := (hx5180.f.t2 hv (by decide))
    have hP : va_P D vwCl [(w, .inr (0, [.ref q5179, .ref q5176])), (q5176, .inl (cs 0, 16, .inl (fun _ => 0))), (v, .inl (cs 0, 600, .inl g5178)), (q5179, .inl (cs 0, n, .inl gq5179))] _ := hB.1
    exact en_v hx hb hr hlocks hL (show 2 ≤ 2 by omega) (show ((0 + 16) + 600) ≤ 616 by omega) dX0_init_29 (⟨_, hKX, hT, hF, hw⟩)
  · have c5177 : ¬ 0 ≤ n := fun h9 => c5177 ((nI_leI (a := 0) (b := n) (by omega) (by omega)).mpr h9)
    refine lv_iconst (v := 0) hx hb dX0_init_18 (by decide) ?_
    refine lv_goto (tgt := 23) hx hb dX0_init_19 (by decide) ?_
    obtain ⟨hb5181, e5181, hat5181, hk5181⟩ := hT.o17 hv.1
    obtain ⟨g5181, rfl⟩ := hk5181
    have hB : Bx B0 D _ [(w, .inr (0, [.null, .ref q5176])), (q5176, .inl (cs 0, 16, .inl (fun _ => 0))), (v, .inl (cs 0, 600, .inl g5181))] [w, q5176] _ _ := hB.more hat5181 hb5181 (fa_c (ne_c hfw hv.1 (by decide))  (fa_c (nw_ne hat5181 hgeq5176) fa_n)) (fa_c (ne_c hfw hv.1 (by decide))  (fa_c (nw_ne hat5181 hgeq5176) fa_n))
    have hL : OkL B0 _ := hB.2.2.2.2.2
    refine cs_r (As := [.ref v, .int 0]) (rest := [.ref w]) ⟨hx, hb, hml, hown, hts⟩ (c_J7_copyOf_59c91 (v := v) (n := 0) hb5181 (hB.1 2 _ rfl) (by omega)) (va_cwS 2 hts gX0_init_J7_copyOf_59c91 rfl rfl rfl hdJ7_copyOf_59c91_o ⟨Nat.le_of_ble_eq_true rfl, Nat.le_of_ble_eq_true rfl⟩) hN hE hL rfl rfl hl.1 (Nat.le_of_ble_eq_true rfl) dX0_init_23 (show 1 + 1 ≤ 2 by omega) (show (0 + 16) + 600 ≤ 616 by omega) (fun q5182 H1 locs hL hqq5182 => ?_)
    obtain ⟨heq5182, hzq5182, hoq5182, gq5182, hatq5182⟩ := hqq5182
    have hB := hB.lc hL
    have hgeq5182 : _ ≤ q5182 := Nat.le_trans hB.2.2.1 (Nat.le_of_eq heq5182.symm)
    have hbq5182 : B0 ≤ q5182 := Nat.le_trans hb0 hgeq5182
    have hfq5182 : (κ q5182).1 = 0 := hT.fresh hgeq5182
    have hB := hB.nwm heq5182 hzq5182 hoq5182 hatq5182 hb0
    have hB : Bx B0 D _ [(w, .inr (0, [.null, .ref q5176])), (q5176, .inl (cs 0, 16, .inl (fun _ => 0))), (v, .inl (cs 0, 600, .inl g5181)), (q5182, .inl (cs 0, 0, .inl gq5182))] [q5182, w, q5176] _ _ := hB
    refine b_putF (D := D) (ci := 0) (v := .ref q5182) (ty := .array .int) (C := RX0) (T := TX0) (N := 2) hx hb hts iX0_init_0 tyX0 tyX0_ok nmX0 hown hN hB 0 rfl rfl 0 (by decide) (hts _ mX0_init_6) (fun _ h9 => h9) rfl hin rfl (by decide +kernel) rfl rfl (Nat.le_of_ble_eq_true rfl) (.inr ⟨rfl, List.mem_of_getElem? (i := 1) rfl⟩) dX0_init_26 (fun H locs hB => ?_)
    have hB : Bx B0 D _ [(w, .inr (0, [.ref q5182, .ref q5176])), (q5176, .inl (cs 0, 16, .inl (fun _ => 0))), (v, .inl (cs 0, 600, .inl g5181)), (q5182, .inl (cs 0, 0, .inl gq5182))] [q5182, w, q5176] _ _ := hB
    obtain ⟨κ5183, hκ5183⟩ : ∃ κ9 : KM, κ9 = (ku (ku (ku κ w (1, 15, 0, 0)) q5176 (22, 16, 0, 0)) q5182 (21, 15, 0, 0)) := ⟨_, rfl⟩
    have hx5183 : KX κ κ5183 := by rw [hκ5183]; exact (((KX.ku hfw).tr (KX.ku (by rw [ku_n (fun e9 => absurd (hB.2.1.1 1 0 _ _ rfl rfl e9) (by decide))]; exact hfq5176))).tr (KX.ku (by rw [ku_n (fun e9 => absurd (hB.2.1.1 3 1 _ _ rfl rfl e9) (by decide)), ku_n (fun e9 => absurd (hB.2.1.1 3 0 _ _ rfl rfl e9) (by decide))]; exact hfq5182)))
    have ew : κ5183 w = (1, 15, 0, 0) := by rw [hκ5183, ku_n (fun e9 => absurd (hB.2.1.1 0 3 _ _ rfl rfl e9) (by decide)), ku_n (fun e9 => absurd (hB.2.1.1 0 1 _ _ rfl rfl e9) (by decide)), ku_a]
    have hw : T2 κ5183 w 1 15 := ⟨by rw [ew], by rw [ew]⟩
    have eq5176 : κ5183 q5176 = (22, 16, 0, 0) := by rw [hκ5183, ku_n (fun e9 => absurd (hB.2.1.1 1 3 _ _ rfl rfl e9) (by decide)), ku_a]
    have hq5176 : T2 κ5183 q5176 22 16 := ⟨by rw [eq5176], by rw [eq5176]⟩
    have eq5182 : κ5183 q5182 = (21, 15, 0, 0) := by rw [hκ5183, ku_a]
    have hq5182 : T2 κ5183 q5182 21 15 := ⟨by rw [eq5182], by rw [eq5182]⟩
    have hx9 := hx5183
    have hT : WT B0 D cs T κ5183 _ := hT.closeN hB hx5183 (fun a9 h9 => by rw [hκ5183, ku_n (fun e9 => h9 (by rw [e9]; exact List.mem_of_getElem? (i := 0) rfl)), ku_n (fun e9 => h9 (by rw [e9]; exact List.mem_of_getElem? (i := 2) rfl)), ku_n (fun e9 => h9 (by rw [e9]; exact List.mem_of_getElem? (i := 1) rfl))]) ⟨⟨3, _, rfl, ok_21 hq5182.1 ⟨_, _, rfl, (by omega)⟩⟩, ⟨⟨0, _, rfl, ok_1 hw.1 ⟨_, _, rfl, hq5182, hq5176⟩⟩, ⟨⟨1, _, rfl, ok_22 hq5176.1 ⟨_, rfl⟩⟩, trivial⟩⟩⟩
    have hF : Fr B0 [] κ H0 _ := hF.closeN hB (fa_c (fun h9 => absurd hfq5182 h9) (fa_c (fun h9 => absurd hfw h9) (fa_c (fun h9 => absurd hfq5176 h9) fa_n)))
    have hL : OkL B0 _ := hB.2.2.2.2.2
    have hKF : KF κ κ5183 := hx5183.f
    have hKX : KX κ κ5183 := hx5183
    have hv := (hx5183.f.t2 hv (by decide))
    have hP : va_P D vwCl [(w, .inr (0, [.ref q5182, .ref q5176])), (q5176, .inl (cs 0, 16, .inl (fun _ => 0))), (v, .inl (cs 0, 600, .inl g5181)), (q5182, .inl (cs 0, 0, .inl gq5182))] _ := hB.1
    exact en_v hx hb hr hlocks hL (show 2 ≤ 2 by omega) (show ((0 + 16) + 600) ≤ 616 by omega) dX0_init_29 (⟨_, hKX, hT, hF, hw⟩)
theorem mX6_init_1 : (.methodLink RX6 1 objectInit : Cond) ∈ wsX6_init := List.mem_of_getElem? (i := 1) (by decide +kernel)
theorem mX6_init_2 : (.instanceMethod objectInit : Cond) ∈ wsX6_init := List.mem_of_getElem? (i := 2) (by decide +kernel)
theorem mX6_init_3 : (.code objectInit ⟨#[0xb1]⟩ 1 none : Cond) ∈ wsX6_init := List.mem_of_getElem? (i := 3) (by decide +kernel)
theorem mX6_init_4 : (.arrayClass .boolean : Cond) ∈ wsX6_init := List.mem_of_getElem? (i := 4) (by decide +kernel)
theorem mX6_init_5 : (.fieldLink RX6 9 "OneBeat$Setup" "isClockTold" "[Z" : Cond) ∈ wsX6_init := List.mem_of_getElem? (i := 5) (by decide +kernel)
theorem iX6_init_6 : ∀ w ∈ wsX60, w ∈ wsX6_init := fun w h => List.mem_of_mem_drop (List.mem_of_mem_take ((show wsX60 = (wsX6_init.drop 11).take 8 by decide +kernel) ▸ h))
theorem mX6_init_6 : (.arrayClass .int : Cond) ∈ wsX6_init := List.mem_of_getElem? (i := 6) (by decide +kernel)
theorem mX6_init_7 : (.fieldLink RX6 13 "OneBeat$Setup" "offset" "[I" : Cond) ∈ wsX6_init := List.mem_of_getElem? (i := 7) (by decide +kernel)
theorem mX6_init_8 : (.fieldLink RX6 17 "OneBeat$Setup" "drift" "[I" : Cond) ∈ wsX6_init := List.mem_of_getElem? (i := 8) (by decide +kernel)
theorem mX6_init_9 : (.fieldLink RX6 20 "OneBeat$Setup" "delay" "[I" : Cond) ∈ wsX6_init := List.mem_of_getElem? (i := 9) (by decide +kernel)
theorem mX6_init_10 : (.fieldLink RX6 23 "OneBeat$Setup" "players" "I" : Cond) ∈ wsX6_init := List.mem_of_getElem? (i := 10) (by decide +kernel)
set_option maxHeartbeats 4000000 in
set_option maxRecDepth 100000 in
theorem c_X6_init {l : Launch} {D : va_G} {cs : Nat → ClassId} {B0 T : Nat} {κ : KM} {H0 : Heap} (hT : WT B0 D cs T κ H0) {w : Nat} (hfw : (κ w).1 = 0) (hwb : B0 ≤ w) (hwa : va_at D vwCl (w, .inr (6, [.int 0, .int 0, .int 0, .null, .null, .null, .null, .null])) H0) {n : Nat} (hn : n ≤ 8) : KC l yX6_init wsX6_init 1 20 4 88 D cs B0 H0 [.ref w, .int (nI n)] (Qv (fun H => ∃ κ1, KX κ κ1 ∧ WT B0 D cs T κ1 H ∧ Fr B0 [] κ H0 H ∧ T2 κ1 w 7 11 ∧ κ1 w = (7, 11, 0, 0))) := by
  refine KC.of cX6_init 2 none (by decide) rfl (Nat.le_of_ble_eq_true rfl) ?_
  intro p e s m below meth c ls hx hb hr hml hown hts hlocks hin hN hE hH0 hl
  have hown : s.vm.findClass RX6 = some m.cls := hown
  have hl : lv_has ls 2 [(0, .ref w), (1, .int (nI n))] := hl
  have hL : OkL B0 [] := OkL.nil
  have hF : Fr B0 [] κ H0 H0 := Fr.rf
  have hP : va_P D vwCl [(w, .inr (6, [.int 0, .int 0, .int 0, .null, .null, .null, .null, .null]))] _ := va_P.cons hwa va_P.nil
  have hb0 : B0 ≤ H0.size := Nat.le_trans hwb (Nat.le_of_lt hwa.lt)
  refine lv_aload_n hx hb dX6_init_0 rfl (lv_at hl 0 rfl) ?_
  refine W.objInit hx hb hown (hts _ mX6_init_1) (hts _ mX6_init_2) (hts _ mX6_init_3) rfl (by rw [hml]; exact hl.1) rfl dX6_init_1 (Nat.le_of_ble_eq_true rfl) (Nat.le_of_ble_eq_true rfl) ?_
  refine W.eq (g2 := F0 m 4 ls []) rfl ?_
  refine lv_aload_n hx hb dX6_init_4 rfl (lv_at hl 0 rfl) ?_
  refine lv_bipush (v := 8) hx hb dX6_init_5 (by decide) ?_
  have hB : Bx B0 D _ [(w, .inr (6, [.int 0, .int 0, .int 0, .null, .null, .null, .null, .null]))] [] _ _ := Bx.of (fun a => (κ a).1) hL hP (fa_c hwb fa_n) (by simp only [List.map_cons, List.map_nil, hfw]; decide)
  refine nw_a (atype := .boolean) (ty := .boolean) (N' := 8) (a0 := (8, .inl (fun _ => 0))) 2 hN rfl hx hb (hts _ mX6_init_4) rfl (fun _ => rfl) (nI_pos (n := 8) (by omega)) (nI_clamp (n := 8) (by omega)) (show 8 * _ ≤ _ by simp only [componentBytes]; omega) (show 0 + 1 ≤ 4 by omega) (show 0 + 8 ≤ 88 by omega) dX6_init_7 (fun q5184 H heq5184 hzq5184 hoq5184 hatq5184 => ?_)
  have hgeq5184 : _ ≤ q5184 := Nat.le_trans hB.2.2.1 (Nat.le_of_eq heq5184.symm)
  have hbq5184 : B0 ≤ q5184 := Nat.le_trans hb0 hgeq5184
  have hfq5184 : (κ q5184).1 = 0 := hT.fresh hgeq5184
  have hB := hB.nwm heq5184 hzq5184 hoq5184 hatq5184 hb0
  have hB : Bx B0 D _ [(w, .inr (6, [.int 0, .int 0, .int 0, .null, .null, .null, .null, .null])), (q5184, .inl (cs 2, 8, .inl (fun _ => 0)))] [q5184] _ _ := hB
  refine b_putF (D := D) (ci := 6) (v := .ref q5184) (ty := .array .boolean) (C := RX6) (T := TX6) (N := 8) hx hb hts iX6_init_6 tyX6 tyX6_ok nmX6 hown hN hB 0 rfl rfl 4 (by decide) (hts _ mX6_init_5) (fun _ h9 => h9) rfl hin rfl (by decide +kernel) rfl rfl (Nat.le_of_ble_eq_true rfl) (.inl rfl) dX6_init_9 (fun H locs hB => ?_)
  have hB : Bx B0 D _ [(w, .inr (6, [.int 0, .int 0, .int 0, .null, .ref q5184, .null, .null, .null])), (q5184, .inl (cs 2, 8, .inl (fun _ => 0)))] [w, q5184] _ _ := hB
  refine lv_aload_n hx hb dX6_init_12 rfl (lv_at hl 0 rfl) ?_
  refine lv_bipush (v := 8) hx hb dX6_init_13 (by decide) ?_
  refine nw_a (atype := .int) (ty := .int) (N' := 8) (a0 := (8, .inl (fun _ => 0))) 0 hN rfl hx hb (hts _ mX6_init_6) rfl (fun _ => rfl) (nI_pos (n := 8) (by omega)) (nI_clamp (n := 8) (by omega)) (show 8 * _ ≤ _ by simp only [componentBytes]; omega) (show 1 + 1 ≤ 4 by omega) (show (0 + 8) + 8 ≤ 88 by omega) dX6_init_15 (fun q5185 H heq5185 hzq5185 hoq5185 hatq5185 => ?_)
  have hgeq5185 : _ ≤ q5185 := Nat.le_trans hB.2.2.1 (Nat.le_of_eq heq5185.symm)
  have hbq5185 : B0 ≤ q5185 := Nat.le_trans hb0 hgeq5185
  have hfq5185 : (κ q5185).1 = 0 := hT.fresh hgeq5185
  have hB := hB.nwm heq5185 hzq5185 hoq5185 hatq5185 hb0
  have hB : Bx B0 D _ [(w, .inr (6, [.int 0, .int 0, .int 0, .null, .ref q5184, .null, .null, .null])), (q5184, .inl (cs 2, 8, .inl (fun _ => 0))), (q5185, .inl (cs 0, 8, .inl (fun _ => 0)))] [q5185, w, q5184] _ _ := hB
  refine b_putF (D := D) (ci := 6) (v := .ref q5185) (ty := .array .int) (C := RX6) (T := TX6) (N := 8) hx hb hts iX6_init_6 tyX6 tyX6_ok nmX6 hown hN hB 0 rfl rfl 5 (by decide) (hts _ mX6_init_7) (fun _ h9 => h9) rfl hin rfl (by decide +kernel) rfl rfl (Nat.le_of_ble_eq_true rfl) (.inr ⟨rfl, List.mem_of_getElem? (i := 1) rfl⟩) dX6_init_17 (fun H locs hB => ?_)
  have hB : Bx B0 D _ [(w, .inr (6, [.int 0, .int 0, .int 0, .null, .ref q5184, .ref q5185, .null, .null])), (q5184, .inl (cs 2, 8, .inl (fun _ => 0))), (q5185, .inl (cs 0, 8, .inl (fun _ => 0)))] [q5185, w, q5184] _ _ := hB
  refine lv_aload_n hx hb dX6_init_20 rfl (lv_at hl 0 rfl) ?_
  refine lv_bipush (v := 8) hx hb dX6_init_21 (by decide) ?_
  refine nw_a (atype := .int) (ty := .int) (N' := 8) (a0 := (8, .inl (fun _ => 0))) 0 hN rfl hx hb (hts _ mX6_init_6) rfl (fun _ => rfl) (nI_pos (n := 8) (by omega)) (nI_clamp (n := 8) (by omega)) (show 8 * _ ≤ _ by simp only [componentBytes]; omega) (show 2 + 1 ≤ 4 by omega) (show ((0 + 8) + 8) + 8 ≤ 88 by omega) dX6_init_23 (fun q5186 H heq5186 hzq5186 hoq5186 hatq5186 => ?_)
  have hgeq5186 : _ ≤ q5186 := Nat.le_trans hB.2.2.1 (Nat.le_of_eq heq5186.symm)
  have hbq5186 : B0 ≤ q5186 := Nat.le_trans hb0 hgeq5186
  have hfq5186 : (κ q5186).1 = 0 := hT.fresh hgeq5186
  have hB := hB.nwm heq5186 hzq5186 hoq5186 hatq5186 hb0
  have hB : Bx B0 D _ [(w, .inr (6, [.int 0, .int 0, .int 0, .null, .ref q5184, .ref q5185, .null, .null])), (q5184, .inl (cs 2, 8, .inl (fun _ => 0))), (q5185, .inl (cs 0, 8, .inl (fun _ => 0))), (q5186, .inl (cs 0, 8, .inl (fun _ => 0)))] [q5186, q5185, w, q5184] _ _ := hB
  refine b_putF (D := D) (ci := 6) (v := .ref q5186) (ty := .array .int) (C := RX6) (T := TX6) (N := 8) hx hb hts iX6_init_6 tyX6 tyX6_ok nmX6 hown hN hB 0 rfl rfl 6 (by decide) (hts _ mX6_init_8) (fun _ h9 => h9) rfl hin rfl (by decide +kernel) rfl rfl (Nat.le_of_ble_eq_true rfl) (.inr ⟨rfl, List.mem_of_getElem? (i := 2) rfl⟩) dX6_init_25 (fun H locs hB => ?_)
  have hB : Bx B0 D _ [(w, .inr (6, [.int 0, .int 0, .int 0, .null, .ref q5184, .ref q5185, .ref q5186, .null])), (q5184, .inl (cs 2, 8, .inl (fun _ => 0))), (q5185, .inl (cs 0, 8, .inl (fun _ => 0))), (q5186, .inl (cs 0, 8, .inl (fun _ => 0)))] [q5186, q5185, w, q5184] _ _ := hB
  refine lv_aload_n hx hb dX6_init_28 rfl (lv_at hl 0 rfl) ?_
  refine lv_bipush (v := 64) hx hb dX6_init_29 (by decide) ?_
  refine nw_a (atype := .int) (ty := .int) (N' := 64) (a0 := (64, .inl (fun _ => 0))) 0 hN rfl hx hb (hts _ mX6_init_6) rfl (fun _ => rfl) (nI_pos (n := 64) (by omega)) (nI_clamp (n := 64) (by omega)) (show 64 * _ ≤ _ by simp only [componentBytes]; omega) (show 3 + 1 ≤ 4 by omega) (show (((0 + 8) + 8) + 8) + 64 ≤ 88 by omega) dX6_init_31 (fun q5187 H heq5187 hzq5187 hoq5187 hatq5187 => ?_)
  have hgeq5187 : _ ≤ q5187 := Nat.le_trans hB.2.2.1 (Nat.le_of_eq heq5187.symm)
  have hbq5187 : B0 ≤ q5187 := Nat.le_trans hb0 hgeq5187
  have hfq5187 : (κ q5187).1 = 0 := hT.fresh hgeq5187
  have hB := hB.nwm heq5187 hzq5187 hoq5187 hatq5187 hb0
  have hB : Bx B0 D _ [(w, .inr (6, [.int 0, .int 0, .int 0, .null, .ref q5184, .ref q5185, .ref q5186, .null])), (q5184, .inl (cs 2, 8, .inl (fun _ => 0))), (q5185, .inl (cs 0, 8, .inl (fun _ => 0))), (q5186, .inl (cs 0, 8, .inl (fun _ => 0))), (q5187, .inl (cs 0, 64, .inl (fun _ => 0)))] [q5187, q5186, q5185, w, q5184] _ _ := hB
  refine b_putF (D := D) (ci := 6) (v := .ref q5187) (ty := .array .int) (C := RX6) (T := TX6) (N := 8) hx hb hts iX6_init_6 tyX6 tyX6_ok nmX6 hown hN hB 0 rfl rfl 7 (by decide) (hts _ mX6_init_9) (fun _ h9 => h9) rfl hin rfl (by decide +kernel) rfl rfl (Nat.le_of_ble_eq_true rfl) (.inr ⟨rfl, List.mem_of_getElem? (i := 3) rfl⟩) dX6_init_33 (fun H locs hB => ?_)
  have hB : Bx B0 D _ [(w, .inr (6, [.int 0, .int 0, .int 0, .null, .ref q5184, .ref q5185, .ref q5186, .ref q5187])), (q5184, .inl (cs 2, 8, .inl (fun _ => 0))), (q5185, .inl (cs 0, 8, .inl (fun _ => 0))), (q5186, .inl (cs 0, 8, .inl (fun _ => 0))), (q5187, .inl (cs 0, 64, .inl (fun _ => 0)))] [q5187, q5186, q5185, w, q5184] _ _ := hB
  refine lv_aload_n hx hb dX6_init_36 rfl (lv_at hl 0 rfl) ?_
  refine lv_iload_n hx hb dX6_init_37 rfl (lv_at hl 1 rfl) ?_
  refine b_putF (D := D) (ci := 6) (v := .int (nI n)) (ty := .int) (C := RX6) (T := TX6) (N := 8) hx hb hts iX6_init_6 tyX6 tyX6_ok nmX6 hown hN hB 0 rfl rfl 0 (by decide) (hts _ mX6_init_10) (fun _ h9 => h9) rfl hin rfl (by decide +kernel) rfl rfl (Nat.le_of_ble_eq_true rfl) (.inr ⟨rfl, List.mem_of_getElem? (i := 3) rfl⟩) dX6_init_38 (fun H locs hB => ?_)
  have hB : Bx B0 D _ [(w, .inr (6, [.int (nI n), .int 0, .int 0, .null, .ref q5184, .ref q5185, .ref q5186, .ref q5187])), (q5184, .inl (cs 2, 8, .inl (fun _ => 0))), (q5185, .inl (cs 0, 8, .inl (fun _ => 0))), (q5186, .inl (cs 0, 8, .inl (fun _ => 0))), (q5187, .inl (cs 0, 64, .inl (fun _ => 0)))] [q5187, q5186, q5185, w, q5184] _ _ := hB
  obtain ⟨κ5188, hκ5188⟩ : ∃ κ9 : KM, κ9 = (ku (ku (ku (ku (ku κ w (7, 11, 0, 0)) q5184 (18, 11, 0, 0)) q5185 (19, 11, 0, 0)) q5186 (19, 11, 0, 0)) q5187 (20, 11, 0, 0)) := ⟨_, rfl⟩
  have hx5188 : KX κ κ5188 := by rw [hκ5188]; exact (((((KX.ku hfw).tr (KX.ku (by rw [ku_n (fun e9 => absurd (hB.2.1.1 1 0 _ _ rfl rfl e9) (by decide))]; exact hfq5184))).tr (KX.ku (by rw [ku_n (fun e9 => absurd (hB.2.1.1 2 1 _ _ rfl rfl e9) (by decide)), ku_n (fun e9 => absurd (hB.2.1.1 2 0 _ _ rfl rfl e9) (by decide))]; exact hfq5185))).tr (KX.ku (by rw [ku_n (fun e9 => absurd (hB.2.1.1 3 2 _ _ rfl rfl e9) (by decide)), ku_n (fun e9 => absurd (hB.2.1.1 3 1 _ _ rfl rfl e9) (by decide)), ku_n (fun e9 => absurd (hB.2.1.1 3 0 _ _ rfl rfl e9) (by decide))]; exact hfq5186))).tr (KX.ku (by rw [ku_n (fun e9 => absurd (hB.2.1.1 4 3 _ _ rfl rfl e9) (by decide)), ku_n (fun e9 => absurd (hB.2.1.1 4 2 _ _ rfl rfl e9) (by decide)), ku_n (fun e9 => absurd (hB.2.1.1 4 1 _ _ rfl rfl e9) (by decide)), ku_n (fun e9 => absurd (hB.2.1.1 4 0 _ _ rfl rfl e9) (by decide))]; exact hfq5187)))
  have ew : κ5188 w = (7, 11, 0, 0) := by rw [hκ5188, ku_n (fun e9 => absurd (hB.2.1.1 0 4 _ _ rfl rfl e9) (by decide)), ku_n (fun e9 => absurd (hB.2.1.1 0 3 _ _ rfl rfl e9) (by decide)), ku_n (fun e9 => absurd (hB.2.1.1 0 2 _ _ rfl rfl e9) (by decide)), ku_n (fun e9 => absurd (hB.2.1.1 0 1 _ _ rfl rfl e9) (by decide)), ku_a]
  have hw : T2 κ5188 w 7 11 := ⟨by rw [ew], by rw [ew]⟩
  have eq5184 : κ5188 q5184 = (18, 11, 0, 0) := by rw [hκ5188, ku_n (fun e9 => absurd (hB.2.1.1 1 4 _ _ rfl rfl e9) (by decide)), ku_n (fun e9 => absurd (hB.2.1.1 1 3 _ _ rfl rfl e9) (by decide)), ku_n (fun e9 => absurd (hB.2.1.1 1 2 _ _ rfl rfl e9) (by decide)), ku_a]
  have hq5184 : T2 κ5188 q5184 18 11 := ⟨by rw [eq5184], by rw [eq5184]⟩
  have eq5185 : κ5188 q5185 = (19, 11, 0, 0) := by rw [hκ5188, ku_n (fun e9 => absurd (hB.2.1.1 2 4 _ _ rfl rfl e9) (by decide)), ku_n (fun e9 => absurd (hB.2.1.1 2 3 _ _ rfl rfl e9) (by decide)), ku_a]
  have hq5185 : T2 κ5188 q5185 19 11 := ⟨by rw [eq5185], by rw [eq5185]⟩
  have eq5186 : κ5188 q5186 = (19, 11, 0, 0) := by rw [hκ5188, ku_n (fun e9 => absurd (hB.2.1.1 3 4 _ _ rfl rfl e9) (by decide)), ku_a]
  have hq5186 : T2 κ5188 q5186 19 11 := ⟨by rw [eq5186], by rw [eq5186]⟩
  have eq5187 : κ5188 q5187 = (20, 11, 0, 0) := by rw [hκ5188, ku_a]
  have hq5187 : T2 κ5188 q5187 20 11 := ⟨by rw [eq5187], by rw [eq5187]⟩
  have hx9 := hx5188
  have hT : WT B0 D cs T κ5188 _ := hT.closeN hB hx5188 (fun a9 h9 => by rw [hκ5188, ku_n (fun e9 => h9 (by rw [e9]; exact List.mem_of_getElem? (i := 0) rfl)), ku_n (fun e9 => h9 (by rw [e9]; exact List.mem_of_getElem? (i := 1) rfl)), ku_n (fun e9 => h9 (by rw [e9]; exact List.mem_of_getElem? (i := 2) rfl)), ku_n (fun e9 => h9 (by rw [e9]; exact List.mem_of_getElem? (i := 4) rfl)), ku_n (fun e9 => h9 (by rw [e9]; exact List.mem_of_getElem? (i := 3) rfl))]) ⟨⟨4, _, rfl, ok_20 hq5187.1 ⟨_, rfl, (fun _ _ => ⟨0, Nat.zero_le _, rfl⟩)⟩⟩, ⟨⟨3, _, rfl, ok_19 hq5186.1 ⟨_, rfl⟩⟩, ⟨⟨2, _, rfl, ok_19 hq5185.1 ⟨_, rfl⟩⟩, ⟨⟨0, _, rfl, ok_7 hw.1 ⟨_, _, _, _, _, _, _, _, rfl, (by omega), (Or.inl rfl), (Or.inl (by rw [ew]; decide)), ⟨hq5184.1, by rw [ew]; exact hq5184.2⟩, ⟨hq5185.1, by rw [ew]; exact hq5185.2⟩, ⟨hq5186.1, by rw [ew]; exact hq5186.2⟩, ⟨hq5187.1, by rw [ew]; exact hq5187.2⟩⟩⟩, ⟨⟨1, _, rfl, ok_18 hq5184.1 ⟨_, rfl, (fun _ _ => Or.inl rfl)⟩⟩, trivial⟩⟩⟩⟩⟩
  have hF : Fr B0 [] κ H0 _ := hF.closeN hB (fa_c (fun h9 => absurd hfq5187 h9) (fa_c (fun h9 => absurd hfq5186 h9) (fa_c (fun h9 => absurd hfq5185 h9) (fa_c (fun h9 => absurd hfw h9) (fa_c (fun h9 => absurd hfq5184 h9) fa_n)))))
  have hL : OkL B0 _ := hB.2.2.2.2.2
  have hKF : KF κ κ5188 := hx5188.f
  have hKX : KX κ κ5188 := hx5188
  have hP : va_P D vwCl [(w, .inr (6, [.int (nI n), .int 0, .int 0, .null, .ref q5184, .ref q5185, .ref q5186, .ref q5187])), (q5184, .inl (cs 2, 8, .inl (fun _ => 0))), (q5185, .inl (cs 0, 8, .inl (fun _ => 0))), (q5186, .inl (cs 0, 8, .inl (fun _ => 0))), (q5187, .inl (cs 0, 64, .inl (fun _ => 0)))] _ := hB.1
  exact en_v hx hb hr hlocks hL (show 4 ≤ 4 by omega) (show ((((0 + 8) + 8) + 8) + 64) ≤ 88 by omega) dX6_init_41 (⟨_, hKX, hT, hF, hw, ew⟩)
theorem mX5_readStatement_7 : (.fieldLink RX5 124 "OneBeat$Reader" "start" "I" : Cond) ∈ wsX5_readStatement := List.mem_of_getElem? (i := 7) (by decide +kernel)
theorem iX5_readStatement_5 : ∀ w ∈ wsX50, w ∈ wsX5_readStatement := fun w h => List.mem_of_mem_drop (List.mem_of_mem_take ((show wsX50 = (wsX5_readStatement.drop 183).take 14 by decide +kernel) ▸ h))
theorem mX5_readStatement_1 : (.fieldLink RX5 65 "OneBeat$Reader" "setup" "LOneBeat$Setup;" : Cond) ∈ wsX5_readStatement := List.mem_of_getElem? (i := 1) (by decide +kernel)
theorem iX5_readStatement_6 : ∀ w ∈ wsX60, w ∈ wsX5_readStatement := fun w h => List.mem_of_mem_drop (List.mem_of_mem_take ((show wsX60 = (wsX5_readStatement.drop 197).take 8 by decide +kernel) ▸ h))
theorem iX5_readStatement_0 : ∀ w ∈ wsX00, w ∈ wsX5_readStatement := fun w h => List.mem_of_mem_drop (List.mem_of_mem_take ((show wsX00 = (wsX5_readStatement.drop 205).take 2 by decide +kernel) ▸ h))
theorem mX5_readStatement_2 : (.classLink RX5 119 RX0 : Cond) ∈ wsX5_readStatement := List.mem_of_getElem? (i := 2) (by decide +kernel)
theorem mX5_readStatement_3 : (.instantiable RX0 2 : Cond) ∈ wsX5_readStatement := List.mem_of_getElem? (i := 3) (by decide +kernel)
theorem mX5_readStatement_4 : (.initialized RX0 : Cond) ∈ wsX5_readStatement := List.mem_of_getElem? (i := 4) (by decide +kernel)
theorem dfl0 : ∀ j, j < 2 → defaultValue (tyX0 j) = vp_V [.null, .null] j := by decide +kernel
theorem mX5_readStatement_5 : (.fieldLink RX5 15 "OneBeat$Reader" "codes" "[I" : Cond) ∈ wsX5_readStatement := List.mem_of_getElem? (i := 5) (by decide +kernel)
theorem mX5_readStatement_6 : (.fieldLink RX5 38 "OneBeat$Reader" "codeCount" "I" : Cond) ∈ wsX5_readStatement := List.mem_of_getElem? (i := 6) (by decide +kernel)
theorem mX5_readStatement_157 : (.instanceMethod yX0_init : Cond) ∈ wsX5_readStatement := List.mem_of_getElem? (i := 157) (by decide +kernel)
theorem mX5_readStatement_156 : (.methodLink RX5 121 yX0_init : Cond) ∈ wsX5_readStatement := List.mem_of_getElem? (i := 156) (by decide +kernel)
theorem hdX0_init_o : yX0_init.cls ≠ "java/lang/invoke/MethodHandle" ∧ yX0_init.cls ≠ "java/lang/invoke/VarHandle" ∧ (parseMethodDescriptor yX0_init.desc).map (fun d => d.parameters.length) = some 2 := by decide +kernel
theorem hdX5_readPatience_v : yX5_readPatience.cls = RX5 ∧ yX5_readPatience.cls ≠ "java/lang/invoke/MethodHandle" ∧ yX5_readPatience.cls ≠ "java/lang/invoke/VarHandle" ∧ (parseMethodDescriptor yX5_readPatience.desc).map (fun d => d.parameters.length) = some 0 := by decide +kernel
theorem hdX5_readNeed_v : yX5_readNeed.cls = RX5 ∧ yX5_readNeed.cls ≠ "java/lang/invoke/MethodHandle" ∧ yX5_readNeed.cls ≠ "java/lang/invoke/VarHandle" ∧ (parseMethodDescriptor yX5_readNeed.desc).map (fun d => d.parameters.length) = some 0 := by decide +kernel
theorem hdX5_readLink_v : yX5_readLink.cls = RX5 ∧ yX5_readLink.cls ≠ "java/lang/invoke/MethodHandle" ∧ yX5_readLink.cls ≠ "java/lang/invoke/VarHandle" ∧ (parseMethodDescriptor yX5_readLink.desc).map (fun d => d.parameters.length) = some 0 := by decide +kernel
theorem hdX5_readClock_v : yX5_readClock.cls = RX5 ∧ yX5_readClock.cls ≠ "java/lang/invoke/MethodHandle" ∧ yX5_readClock.cls ≠ "java/lang/invoke/VarHandle" ∧ (parseMethodDescriptor yX5_readClock.desc).map (fun d => d.parameters.length) = some 0 := by decide +kernel
set_option maxHeartbeats 4000000 in
set_option maxRecDepth 100000 in
theorem c_X5_readStatement {l : Launch} {D : va_G} {cs : Nat → ClassId} {B0 T : Nat} {κ : KM} {H0 : Heap} (hT : WT B0 D cs T κ H0) {w : Nat} (hw : T2 κ w 6 10) (hs0 : ¬ (κ w).2.2.2 = 0) (hsu : T2 κ (κ w).2.2.2 7 11) : KC l yX5_readStatement wsX5_readStatement 21 467 3 618 D cs B0 H0 [.ref w] (Qi (fun r H => ∃ κ1, (∀ a, (κ a).1 ≠ 0 → a ≠ (κ w).2.2.2 → κ1 a = κ a) ∧ WT B0 D cs T κ1 H ∧ Fr B0 [10, 11] κ H0 H ∧ T2 κ1 (κ w).2.2.2 7 11 ∧ (((κ1 (κ w).2.2.2).2.2.1 = (κ (κ w).2.2.2).2.2.1 ∧ Gr H0 H 0 0) ∨ ((κ (κ w).2.2.2).2.2.1 ≠ 1 ∧ (κ1 (κ w).2.2.2).2.2.1 = 1 ∧ Gr H0 H 3 618)) ∧ (r = 0 ∨ r = 1))) := by
  refine KC.of cX5_readStatement 1 (some .boolean) (by decide) rfl (Nat.le_of_ble_eq_true rfl) ?_
  intro p e s m below meth c ls hx hb hr hml hown hts hlocks hin hN hE hH0 hl
  have hown : s.vm.findClass RX5 = some m.cls := hown
  have hl : lv_has ls 1 [(0, .ref w)] := hl
  have hL : OkL B0 [] := OkL.nil
  have hF : Fr B0 [10, 11] κ H0 H0 := Fr.rf
  refine lv_aload_n hx hb dX5_readStatement_0 rfl (lv_at hl 0 rfl) ?_
  refine va_ldcS hx hb hown (hN.s 2 rfl) dX5_readStatement_1 ?_
  refine cv_i (As := [.ref (cs 102)]) (rest := []) (b := w) ⟨hx, hb, hml, hown, hts⟩ (c_X5_isWord hT (w := w) hw (i := 2) (by decide)) (cwV 1 hts gX5_readStatement_X5_isWord rfl rfl rfl hdX5_isWord_v ⟨Nat.le_of_ble_eq_true rfl, Nat.le_of_ble_eq_true rfl⟩) hN hE hL (rcv6 hN hT hw.1) rfl rfl hl.1 (Nat.le_of_ble_eq_true rfl) dX5_readStatement_3 (Nat.zero_le _) (Nat.zero_le _) (fun r5189 H1 locs hL hqr5189 => ?_)
  obtain ⟨h9, hqr5189⟩ := hqr5189; replace h9 := h9.symm; subst h9
  rcases hqr5189 with rfl | rfl
  · refine lv_if_eq (tgt := 14) hx hb dX5_readStatement_6 (by decide) (fun _ => ?_) (fun c9 => absurd (by decide) c9)
    refine lv_aload_n hx hb dX5_readStatement_14 rfl (lv_at hl 0 rfl) ?_
    refine va_ldcS hx hb hown (hN.s 3 rfl) dX5_readStatement_15 ?_
    refine cv_i (As := [.ref (cs 103)]) (rest := []) (b := w) ⟨hx, hb, hml, hown, hts⟩ (c_X5_isWord hT (w := w) hw (i := 3) (by decide)) (cwV 1 hts gX5_readStatement_X5_isWord rfl rfl rfl hdX5_isWord_v ⟨Nat.le_of_ble_eq_true rfl, Nat.le_of_ble_eq_true rfl⟩) hN hE hL (rcv6 hN hT hw.1) rfl rfl hl.1 (Nat.le_of_ble_eq_true rfl) dX5_readStatement_17 (Nat.zero_le _) (Nat.zero_le _) (fun r5190 H1 locs hL hqr5190 => ?_)
    obtain ⟨h9, hqr5190⟩ := hqr5190; replace h9 := h9.symm; subst h9
    rcases hqr5190 with rfl | rfl
    · refine lv_if_eq (tgt := 28) hx hb dX5_readStatement_20 (by decide) (fun _ => ?_) (fun c9 => absurd (by decide) c9)
      refine lv_aload_n hx hb dX5_readStatement_28 rfl (lv_at hl 0 rfl) ?_
      refine va_ldcS hx hb hown (hN.s 4 rfl) dX5_readStatement_29 ?_
      refine cv_i (As := [.ref (cs 104)]) (rest := []) (b := w) ⟨hx, hb, hml, hown, hts⟩ (c_X5_isWord hT (w := w) hw (i := 4) (by decide)) (cwV 1 hts gX5_readStatement_X5_isWord rfl rfl rfl hdX5_isWord_v ⟨Nat.le_of_ble_eq_true rfl, Nat.le_of_ble_eq_true rfl⟩) hN hE hL (rcv6 hN hT hw.1) rfl rfl hl.1 (Nat.le_of_ble_eq_true rfl) dX5_readStatement_31 (Nat.zero_le _) (Nat.zero_le _) (fun r5191 H1 locs hL hqr5191 => ?_)
      obtain ⟨h9, hqr5191⟩ := hqr5191; replace h9 := h9.symm; subst h9
      rcases hqr5191 with rfl | rfl
      · refine lv_if_eq (tgt := 52) hx hb dX5_readStatement_34 (by decide) (fun _ => ?_) (fun c9 => absurd (by decide) c9)
        refine lv_aload_n hx hb dX5_readStatement_52 rfl (lv_at hl 0 rfl) ?_
        refine va_ldcS hx hb hown (hN.s 5 rfl) dX5_readStatement_53 ?_
        refine cv_i (As := [.ref (cs 105)]) (rest := []) (b := w) ⟨hx, hb, hml, hown, hts⟩ (c_X5_isWord hT (w := w) hw (i := 5) (by decide)) (cwV 1 hts gX5_readStatement_X5_isWord rfl rfl rfl hdX5_isWord_v ⟨Nat.le_of_ble_eq_true rfl, Nat.le_of_ble_eq_true rfl⟩) hN hE hL (rcv6 hN hT hw.1) rfl rfl hl.1 (Nat.le_of_ble_eq_true rfl) dX5_readStatement_55 (Nat.zero_le _) (Nat.zero_le _) (fun r5192 H1 locs hL hqr5192 => ?_)
        obtain ⟨h9, hqr5192⟩ := hqr5192; replace h9 := h9.symm; subst h9
        rcases hqr5192 with rfl | rfl
        · refine lv_if_eq (tgt := 76) hx hb dX5_readStatement_58 (by decide) (fun _ => ?_) (fun c9 => absurd (by decide) c9)
          refine lv_aload_n hx hb dX5_readStatement_76 rfl (lv_at hl 0 rfl) ?_
          refine va_ldcS hx hb hown (hN.s 6 rfl) dX5_readStatement_77 ?_
          refine cv_i (As := [.ref (cs 106)]) (rest := []) (b := w) ⟨hx, hb, hml, hown, hts⟩ (c_X5_isWord hT (w := w) hw (i := 6) (by decide)) (cwV 1 hts gX5_readStatement_X5_isWord rfl rfl rfl hdX5_isWord_v ⟨Nat.le_of_ble_eq_true rfl, Nat.le_of_ble_eq_true rfl⟩) hN hE hL (rcv6 hN hT hw.1) rfl rfl hl.1 (Nat.le_of_ble_eq_true rfl) dX5_readStatement_79 (Nat.zero_le _) (Nat.zero_le _) (fun r5193 H1 locs hL hqr5193 => ?_)
          obtain ⟨h9, hqr5193⟩ := hqr5193; replace h9 := h9.symm; subst h9
          rcases hqr5193 with rfl | rfl
          · refine lv_if_eq (tgt := 133) hx hb dX5_readStatement_82 (by decide) (fun _ => ?_) (fun c9 => absurd (by decide) c9)
            refine lv_aload_n hx hb dX5_readStatement_133 rfl (lv_at hl 0 rfl) ?_
            refine lv_bipush (v := (-2)) hx hb dX5_readStatement_134 (by decide) ?_
            refine lv_aload_n hx hb dX5_readStatement_136 rfl (lv_at hl 0 rfl) ?_
            obtain ⟨hb5194, e5194, hat5194, hk5194⟩ := hT.o6 hw.1
            obtain ⟨f5194_0, f5194_2, f5194_3, f5194_4, f5194_5, f5194_6, f5194_7, f5194_8, f5194_9, f5194_10, f5194_11, f5194_12, f5194_13, rfl, c5194_1, c5194_2, c5194_3, c5194_5, c5194_10, t5194_0, t5194_9, c5194_11, c5194_p2⟩ := hk5194
            obtain rfl : f5194_11 = .ref (κ w).2.2.2 := c5194_p2.resolve_left hs0
            have hP : va_P D vwCl [(w, .inr (5, [.ref f5194_0, .int (nI ((κ w).2.2.1)), .int (nI f5194_2), .int (nI f5194_3), .int f5194_4, .int (nI f5194_5), .int f5194_6, .int f5194_7, .int f5194_8, .ref f5194_9, .int (nI f5194_10), .ref (κ w).2.2.2, .int f5194_12, .int f5194_13]))] _ := va_P.cons hat5194 va_P.nil
            refine va_get (D := D) (ci := 5) (v := .int (nI f5194_5)) (C := RX5) (T := TX5) (N := 14) hx hb hts iX5_readStatement_5 hown hN.1 hP 0 rfl rfl 5 (by decide) (hts _ mX5_readStatement_7) (fun _ h9 => h9) rfl dX5_readStatement_137 ?_
            refine cv_i (As := [.int (-2), .int (nI f5194_5)]) (rest := []) (b := w) ⟨hx, hb, hml, hown, hts⟩ (c_X5_fail hT (w := w) hw (x := (-2)) (y := (nI f5194_5))) (cwV 2 hts gX5_readStatement_X5_fail rfl rfl rfl hdX5_fail_v ⟨Nat.le_of_ble_eq_true rfl, Nat.le_of_ble_eq_true rfl⟩) hN hE hL (rcv6 hN hT hw.1) rfl rfl hl.1 (Nat.le_of_ble_eq_true rfl) dX5_readStatement_140 (Nat.zero_le _) (Nat.zero_le _) (fun r5195 H1 locs hL hqr5195 => ?_)
            obtain ⟨hT1, hF1, hqr5195⟩ := hqr5195
            have hF := hF.tr (hF1.mono (by simp))
            have hT := hT1
            obtain rfl := hqr5195
            refine W.know (fun hg => ?_)
            rw [hH0] at hg
            exact en_i hx hb hr hlocks hL rfl (Nat.zero_le _) (Nat.zero_le _) dX5_readStatement_143 (⟨_, (fun _ _ _ => rfl), hT, hF, hsu, Or.inl ⟨rfl, hg⟩, Or.inl rfl⟩)
          · refine lv_if_eq (tgt := 133) hx hb dX5_readStatement_82 (by decide) (fun c9 => absurd c9 (by decide)) (fun _ => ?_)
            refine lv_aload_n hx hb dX5_readStatement_85 rfl (lv_at hl 0 rfl) ?_
            obtain ⟨hb5196, e5196, hat5196, hk5196⟩ := hT.o6 hw.1
            obtain ⟨f5196_0, f5196_2, f5196_3, f5196_4, f5196_5, f5196_6, f5196_7, f5196_8, f5196_9, f5196_10, f5196_11, f5196_12, f5196_13, rfl, c5196_1, c5196_2, c5196_3, c5196_5, c5196_10, t5196_0, t5196_9, c5196_11, c5196_p2⟩ := hk5196
            obtain rfl : f5196_11 = .ref (κ w).2.2.2 := c5196_p2.resolve_left hs0
            have hP : va_P D vwCl [(w, .inr (5, [.ref f5196_0, .int (nI ((κ w).2.2.1)), .int (nI f5196_2), .int (nI f5196_3), .int f5196_4, .int (nI f5196_5), .int f5196_6, .int f5196_7, .int f5196_8, .ref f5196_9, .int (nI f5196_10), .ref (κ w).2.2.2, .int f5196_12, .int f5196_13]))] _ := va_P.cons hat5196 va_P.nil
            refine va_get (D := D) (ci := 5) (v := .ref (κ w).2.2.2) (C := RX5) (T := TX5) (N := 14) hx hb hts iX5_readStatement_5 hown hN.1 hP 0 rfl rfl 11 (by decide) (hts _ mX5_readStatement_1) (fun _ h9 => h9) rfl dX5_readStatement_86 ?_
            obtain ⟨hb5197, e5197, hat5197, hk5197⟩ := hT.o7 hsu.1
            obtain ⟨f5197_0, f5197_1, f5197_2, f5197_3, f5197_4, f5197_5, f5197_6, f5197_7, rfl, c5197_0, c5197_3, c5197_mg, t5197_4, t5197_5, t5197_6, t5197_7⟩ := hk5197
            rw [hsu.2] at t5197_4
            rw [hsu.2] at t5197_5
            rw [hsu.2] at t5197_6
            rw [hsu.2] at t5197_7
            have hP : va_P D vwCl [((κ w).2.2.2, .inr (6, [.int (nI f5197_0), .int f5197_1, .int f5197_2, f5197_3, .ref f5197_4, .ref f5197_5, .ref f5197_6, .ref f5197_7])), (w, .inr (5, [.ref f5196_0, .int (nI ((κ w).2.2.1)), .int (nI f5196_2), .int (nI f5196_3), .int f5196_4, .int (nI f5196_5), .int f5196_6, .int f5196_7, .int f5196_8, .ref f5196_9, .int (nI f5196_10), .ref (κ w).2.2.2, .int f5196_12, .int f5196_13]))] _ := va_P.cons hat5197 hP
            rcases c5197_3 with rfl | ⟨a5198, rfl, ta5198⟩
            · refine va_getN (D := D) (ci := 6) (v := .null) (C := RX6) (T := TX6) (N := 8) hx hb hts iX5_readStatement_6 hown hN.1 hP 0 rfl rfl 3 (by decide) (hN.f 44 rfl) (fun _ h9 => h9) rfl dX5_readStatement_89 ?_
              refine lv_ifnonnullN hx hb dX5_readStatement_92 ?_
              have hmg1 : (κ (κ w).2.2.2).2.2.1 ≠ 1 := (c5197_mg).resolve_right (by rintro ⟨_, h9⟩; cases h9)
              refine lv_aload_n hx hb dX5_readStatement_95 rfl (lv_at hl 0 rfl) ?_
              refine cv_v (As := []) (rest := []) (b := w) ⟨hx, hb, hml, hown, hts⟩ (c_X5_step hT (w := w) hw) (cwV 0 hts gX5_readStatement_X5_step rfl rfl rfl hdX5_step_v ⟨Nat.le_of_ble_eq_true rfl, Nat.le_of_ble_eq_true rfl⟩) hN hE hL (rcv6 hN hT hw.1) rfl rfl hl.1 (Nat.le_of_ble_eq_true rfl) dX5_readStatement_96 (Nat.zero_le _) (Nat.zero_le _) (fun H1 locs hL hqr5199 => ?_)
              obtain ⟨hT1, hF1, hqr5199⟩ := hqr5199
              have hP : va_P D vwCl [((κ w).2.2.2, .inr (6, [.int (nI f5197_0), .int f5197_1, .int f5197_2, .null, .ref f5197_4, .ref f5197_5, .ref f5197_6, .ref f5197_7]))] _ := hF1.hP (hP.sub [0] rfl) (fa_c ⟨by rw [hsu.1]; decide, by rw [hsu.2]; first | decide | (simp; done) | (simp; omega)⟩ fa_n)
              have hF := hF.tr (hF1.mono (by simp))
              have hT := hT1
              have f5200 := hqr5199
              refine lv_aload_n hx hb dX5_readStatement_99 rfl (lv_at hl 0 rfl) ?_
              refine lv_iconst (v := 0) hx hb dX5_readStatement_100 (by decide) ?_
              refine cv_i (As := [.int 0]) (rest := []) (b := w) ⟨hx, hb, hml, hown, hts⟩ (c_X5_readSum_d0 hT (w := w) hw) (cwV 1 hts gX5_readStatement_X5_readSum rfl rfl rfl hdX5_readSum_v ⟨Nat.le_of_ble_eq_true rfl, Nat.le_of_ble_eq_true rfl⟩) hN hE hL (rcv6 hN hT hw.1) rfl rfl hl.1 (Nat.le_of_ble_eq_true rfl) dX5_readStatement_101 (Nat.zero_le _) (Nat.zero_le _) (fun r5201 H1 locs hL hqr5201 => ?_)
              obtain ⟨hT1, hF1, hqr5201⟩ := hqr5201
              have hP : va_P D vwCl [((κ w).2.2.2, .inr (6, [.int (nI f5197_0), .int f5197_1, .int f5197_2, .null, .ref f5197_4, .ref f5197_5, .ref f5197_6, .ref f5197_7]))] _ := hF1.hP (hP.sub [0] rfl) (fa_c ⟨by rw [hsu.1]; decide, by rw [hsu.2]; first | decide | (simp; done) | (simp; omega)⟩ fa_n)
              have hF := hF.tr (hF1.mono (by simp))
              have hT := hT1
              rcases hqr5201 with rfl | rfl
              · refine lv_if_ne (tgt := 109) hx hb dX5_readStatement_104 (by decide) (fun c9 => absurd (by decide) c9) (fun _ => ?_)
                refine lv_iconst (v := 0) hx hb dX5_readStatement_107 (by decide) ?_
                refine W.know (fun hg => ?_)
                rw [hH0] at hg
                exact en_i hx hb hr hlocks hL rfl (Nat.zero_le _) (Nat.zero_le _) dX5_readStatement_108 (⟨_, (fun _ _ _ => rfl), hT, hF, hsu, Or.inl ⟨rfl, hg⟩, Or.inl rfl⟩)
              · refine lv_if_ne (tgt := 109) hx hb dX5_readStatement_104 (by decide) (fun _ => ?_) (fun c9 => absurd c9 (by decide))
                refine lv_aload_n hx hb dX5_readStatement_109 rfl (lv_at hl 0 rfl) ?_
                obtain ⟨hb5202, e5202, hat5202, hk5202⟩ := hT.o6 hw.1
                obtain ⟨f5202_0, f5202_2, f5202_3, f5202_4, f5202_5, f5202_6, f5202_7, f5202_8, f5202_9, f5202_10, f5202_11, f5202_12, f5202_13, rfl, c5202_1, c5202_2, c5202_3, c5202_5, c5202_10, t5202_0, t5202_9, c5202_11, c5202_p2⟩ := hk5202
                obtain rfl : f5202_11 = .ref (κ w).2.2.2 := c5202_p2.resolve_left hs0
                have hP : va_P D vwCl [(w, .inr (5, [.ref f5202_0, .int (nI ((κ w).2.2.1)), .int (nI f5202_2), .int (nI f5202_3), .int f5202_4, .int (nI f5202_5), .int f5202_6, .int f5202_7, .int f5202_8, .ref f5202_9, .int (nI f5202_10), .ref (κ w).2.2.2, .int f5202_12, .int f5202_13])), ((κ w).2.2.2, .inr (6, [.int (nI f5197_0), .int f5197_1, .int f5197_2, .null, .ref f5197_4, .ref f5197_5, .ref f5197_6, .ref f5197_7]))] _ := va_P.cons hat5202 hP
                refine va_get (D := D) (ci := 5) (v := .ref (κ w).2.2.2) (C := RX5) (T := TX5) (N := 14) hx hb hts iX5_readStatement_5 hown hN.1 hP 0 rfl rfl 11 (by decide) (hts _ mX5_readStatement_1) (fun _ h9 => h9) rfl dX5_readStatement_110 ?_
                have hb0 : B0 ≤ _ := hT.b0 hw (by decide)
                have hB : Bx B0 D _ [(w, .inr (5, [.ref f5202_0, .int (nI ((κ w).2.2.1)), .int (nI f5202_2), .int (nI f5202_3), .int f5202_4, .int (nI f5202_5), .int f5202_6, .int f5202_7, .int f5202_8, .ref f5202_9, .int (nI f5202_10), .ref (κ w).2.2.2, .int f5202_12, .int f5202_13])), ((κ w).2.2.2, .inr (6, [.int (nI f5197_0), .int f5197_1, .int f5197_2, .null, .ref f5197_4, .ref f5197_5, .ref f5197_6, .ref f5197_7]))] [] _ _ := Bx.of (fun a => (κ a).1) hL hP (fa_c hb5202 (fa_c hb5197 fa_n)) (by simp only [List.map_cons, List.map_nil, hw.1, hsu.1]; decide)
                refine nw_o (ci := 0) (fs := [.null, .null]) (C := RX0) (T := TX0) (N := 2) hx hb hts iX5_readStatement_0 tyX0 tyX0_ok hown (hts _ mX5_readStatement_2) (hts _ mX5_readStatement_3) (hts _ mX5_readStatement_4) hN rfl dfl0 (show 0 + 1 ≤ 3 by omega) (show 0 + 2 ≤ 618 by omega) dX5_readStatement_113 (fun q5203 H heq5203 hzq5203 hoq5203 hatq5203 => ?_)
                have hgeq5203 : _ ≤ q5203 := Nat.le_trans hB.2.2.1 (Nat.le_of_eq heq5203.symm)
                have hbq5203 : B0 ≤ q5203 := Nat.le_trans hb0 hgeq5203
                have hfq5203 : (κ q5203).1 = 0 := hT.fresh hgeq5203
                have hB := hB.nw heq5203 hzq5203 hoq5203 hatq5203 hb0
                have hB : Bx B0 D _ [(w, .inr (5, [.ref f5202_0, .int (nI ((κ w).2.2.1)), .int (nI f5202_2), .int (nI f5202_3), .int f5202_4, .int (nI f5202_5), .int f5202_6, .int f5202_7, .int f5202_8, .ref f5202_9, .int (nI f5202_10), .ref (κ w).2.2.2, .int f5202_12, .int f5202_13])), ((κ w).2.2.2, .inr (6, [.int (nI f5197_0), .int f5197_1, .int f5197_2, .null, .ref f5197_4, .ref f5197_5, .ref f5197_6, .ref f5197_7])), (q5203, .inr (0, [.null, .null]))] [] _ _ := hB
                refine lv_dup hx hb dX5_readStatement_116 rfl ?_
                refine lv_aload_n hx hb dX5_readStatement_117 rfl (lv_at hl 0 rfl) ?_
                refine va_get (D := D) (ci := 5) (v := .ref f5202_9) (C := RX5) (T := TX5) (N := 14) hx hb hts iX5_readStatement_5 hown hN.1 hB.1 0 rfl rfl 9 (by decide) (hts _ mX5_readStatement_5) (fun _ h9 => h9) rfl dX5_readStatement_118 ?_
                refine lv_aload_n hx hb dX5_readStatement_121 rfl (lv_at hl 0 rfl) ?_
                refine va_get (D := D) (ci := 5) (v := .int (nI f5202_10)) (C := RX5) (T := TX5) (N := 14) hx hb hts iX5_readStatement_5 hown hN.1 hB.1 0 rfl rfl 10 (by decide) (hts _ mX5_readStatement_6) (fun _ h9 => h9) rfl dX5_readStatement_122 ?_
                have hT : WT B0 D cs T κ _ := hT.close hB trivial
                have hF : Fr B0 [10, 11] κ H0 _ := hF.close hB fa_n
                have hL : OkL B0 _ := hB.2.2.2.2.2
                have hP : va_P D vwCl [(w, .inr (5, [.ref f5202_0, .int (nI ((κ w).2.2.1)), .int (nI f5202_2), .int (nI f5202_3), .int f5202_4, .int (nI f5202_5), .int f5202_6, .int f5202_7, .int f5202_8, .ref f5202_9, .int (nI f5202_10), .ref (κ w).2.2.2, .int f5202_12, .int f5202_13])), ((κ w).2.2.2, .inr (6, [.int (nI f5197_0), .int f5197_1, .int f5197_2, .null, .ref f5197_4, .ref f5197_5, .ref f5197_6, .ref f5197_7])), (q5203, .inr (0, [.null, .null]))] _ := hB.1
                refine ci_v (As := [.ref f5202_9, .int (nI f5202_10)]) (rest := [.ref q5203, .ref (κ w).2.2.2]) (b := q5203) ⟨hx, hb, hml, hown, hts⟩ (c_X0_init hT (w := q5203) hfq5203 hbq5203 (hP 2 _ rfl) (v := f5202_9) t5202_9 (n := f5202_10) (by first | omega | decide | assumption)) (cwI 2 hts gX5_readStatement_X0_init rfl rfl rfl (hts _ mX5_readStatement_4) (hts _ mX5_readStatement_156) (hts _ mX5_readStatement_157) rfl hdX0_init_o ⟨Nat.le_of_ble_eq_true rfl, Nat.le_of_ble_eq_true rfl⟩) hN hE hL rfl rfl hl.1 (Nat.le_of_ble_eq_true rfl) dX5_readStatement_125 (show 1 + 2 ≤ 3 by omega) (show (0 + 2) + 616 ≤ 618 by omega) (fun H1 locs hL hqr5204 => ?_)
                obtain ⟨κr5204, hxr5204, hT1, hF1, hqr5204⟩ := hqr5204
                have hF := hF.tr (hF1.mono (by simp))
                have hT := hT1
                have hKF : KF κ κr5204 := hxr5204.f
                have hKX : KX κ κr5204 := hxr5204
                have hw := (hxr5204.f.t2 hw (by decide))
                have hsu := (hxr5204.f.t2 hsu (by decide))
                have hq5203 := hqr5204
                obtain ⟨hb5205, e5205, hat5205, hk5205⟩ := hT.o7 hsu.1
                obtain ⟨f5205_0, f5205_1, f5205_2, f5205_3, f5205_4, f5205_5, f5205_6, f5205_7, rfl, c5205_0, c5205_3, c5205_mg, t5205_4, t5205_5, t5205_6, t5205_7⟩ := hk5205
                rw [hsu.2] at t5205_4
                rw [hsu.2] at t5205_5
                rw [hsu.2] at t5205_6
                rw [hsu.2] at t5205_7
                have hP : va_P D vwCl [((κ w).2.2.2, .inr (6, [.int (nI f5205_0), .int f5205_1, .int f5205_2, f5205_3, .ref f5205_4, .ref f5205_5, .ref f5205_6, .ref f5205_7]))] _ := va_P.cons hat5205 va_P.nil
                have hB : Bx B0 D _ [((κ w).2.2.2, .inr (6, [.int (nI f5205_0), .int f5205_1, .int f5205_2, f5205_3, .ref f5205_4, .ref f5205_5, .ref f5205_6, .ref f5205_7]))] [] _ _ := Bx.of (fun a => (κr5204 a).1) hL hP (fa_c hb5205 fa_n) (by simp only [List.map_cons, List.map_nil, hsu.1]; decide)
                refine b_putN (D := D) (ci := 6) (v := .ref q5203) (ty := .object "OneBeat$Formula") (C := RX6) (T := TX6) (N := 8) hx hb hts iX5_readStatement_6 tyX6 tyX6_ok nmX6 hown hN hB 0 rfl rfl 3 (by decide) (hN.f 44 rfl) (fun _ h9 => h9) rfl (by decide +kernel) rfl rfl (Nat.le_of_ble_eq_true rfl) (.inl rfl) dX5_readStatement_128 (fun H locs hB => ?_)
                have hB : Bx B0 D _ [((κ w).2.2.2, .inr (6, [.int (nI f5205_0), .int f5205_1, .int f5205_2, .ref q5203, .ref f5205_4, .ref f5205_5, .ref f5205_6, .ref f5205_7]))] [(κ w).2.2.2] _ _ := hB
                refine lv_iconst (v := 1) hx hb dX5_readStatement_131 (by decide) ?_
                have hF : Fr B0 [10, 11] κ H0 _ := hF.closeN hB (fa_c (fun h9 => by rw [← (hKF _ h9).2, hsu.2]; simp) fa_n)
                have hT : WT B0 D cs T (kp κr5204 (κ w).2.2.2 1 0) _ := hT.closeK (κ w).2.2.2 1 0 hB (by rw [hsu.1]; decide) (by rw [hsu.1]; decide) (List.mem_of_getElem? (i := 0) rfl) ⟨⟨0, _, rfl, kp_ok (ok_7 (k := ((κr5204 (κ w).2.2.2).1, (κr5204 (κ w).2.2.2).2.1, _, _)) hsu.1 ⟨_, _, _, _, _, _, _, _, rfl, (by omega), (Or.inr ⟨_, rfl, (t2kp hq5203)⟩), (Or.inr ⟨_, rfl⟩), ⟨(t2kp t5205_4).1, by rw [hsu.2]; exact (t2kp t5205_4).2⟩, ⟨(t2kp t5205_5).1, by rw [hsu.2]; exact (t2kp t5205_5).2⟩, ⟨(t2kp t5205_6).1, by rw [hsu.2]; exact (t2kp t5205_6).2⟩, ⟨(t2kp t5205_7).1, by rw [hsu.2]; exact (t2kp t5205_7).2⟩⟩)⟩, trivial⟩
                have hL : OkL B0 _ := hB.2.2.2.2.2
                have hsu := t2kp (x := 1) (y := 0) (a := (κ w).2.2.2) hsu
                refine W.know (fun hg => ?_)
                rw [hH0] at hg
                exact en_i hx hb hr hlocks hL rfl (show 3 ≤ 3 by omega) (show ((0 + 2) + 616) ≤ 618 by omega) dX5_readStatement_132 (⟨_, (fun a h1 h2 => (kp_n h2).trans (hKX a h1)), hT, hF, hsu, Or.inr ⟨hmg1, by rw [kp_a], hg.mono (by omega) (by omega)⟩, Or.inr rfl⟩)
            · refine va_getN (D := D) (ci := 6) (v := .ref a5198) (C := RX6) (T := TX6) (N := 8) hx hb hts iX5_readStatement_6 hown hN.1 hP 0 rfl rfl 3 (by decide) (hN.f 44 rfl) (fun _ h9 => h9) rfl dX5_readStatement_89 ?_
              refine lv_ifnonnull (tgt := 133) hx hb dX5_readStatement_92 (by decide) ?_
              refine lv_aload_n hx hb dX5_readStatement_133 rfl (lv_at hl 0 rfl) ?_
              refine lv_bipush (v := (-2)) hx hb dX5_readStatement_134 (by decide) ?_
              refine lv_aload_n hx hb dX5_readStatement_136 rfl (lv_at hl 0 rfl) ?_
              refine va_get (D := D) (ci := 5) (v := .int (nI f5196_5)) (C := RX5) (T := TX5) (N := 14) hx hb hts iX5_readStatement_5 hown hN.1 hP 1 rfl rfl 5 (by decide) (hts _ mX5_readStatement_7) (fun _ h9 => h9) rfl dX5_readStatement_137 ?_
              refine cv_i (As := [.int (-2), .int (nI f5196_5)]) (rest := []) (b := w) ⟨hx, hb, hml, hown, hts⟩ (c_X5_fail hT (w := w) hw (x := (-2)) (y := (nI f5196_5))) (cwV 2 hts gX5_readStatement_X5_fail rfl rfl rfl hdX5_fail_v ⟨Nat.le_of_ble_eq_true rfl, Nat.le_of_ble_eq_true rfl⟩) hN hE hL (rcv6 hN hT hw.1) rfl rfl hl.1 (Nat.le_of_ble_eq_true rfl) dX5_readStatement_140 (Nat.zero_le _) (Nat.zero_le _) (fun r5206 H1 locs hL hqr5206 => ?_)
              obtain ⟨hT1, hF1, hqr5206⟩ := hqr5206
              have hP : va_P D vwCl [((κ w).2.2.2, .inr (6, [.int (nI f5197_0), .int f5197_1, .int f5197_2, .ref a5198, .ref f5197_4, .ref f5197_5, .ref f5197_6, .ref f5197_7]))] _ := hF1.hP (hP.sub [0] rfl) (fa_c ⟨by rw [hsu.1]; decide, by rw [hsu.2]; first | decide | (simp; done) | (simp; omega)⟩ fa_n)
              have hF := hF.tr (hF1.mono (by simp))
              have hT := hT1
              obtain rfl := hqr5206
              refine W.know (fun hg => ?_)
              rw [hH0] at hg
              exact en_i hx hb hr hlocks hL rfl (Nat.zero_le _) (Nat.zero_le _) dX5_readStatement_143 (⟨_, (fun _ _ _ => rfl), hT, hF, hsu, Or.inl ⟨rfl, hg⟩, Or.inl rfl⟩)
        · refine lv_if_eq (tgt := 76) hx hb dX5_readStatement_58 (by decide) (fun c9 => absurd c9 (by decide)) (fun _ => ?_)
          refine lv_aload_n hx hb dX5_readStatement_61 rfl (lv_at hl 0 rfl) ?_
          obtain ⟨hb5207, e5207, hat5207, hk5207⟩ := hT.o6 hw.1
          obtain ⟨f5207_0, f5207_2, f5207_3, f5207_4, f5207_5, f5207_6, f5207_7, f5207_8, f5207_9, f5207_10, f5207_11, f5207_12, f5207_13, rfl, c5207_1, c5207_2, c5207_3, c5207_5, c5207_10, t5207_0, t5207_9, c5207_11, c5207_p2⟩ := hk5207
          obtain rfl : f5207_11 = .ref (κ w).2.2.2 := c5207_p2.resolve_left hs0
          have hP : va_P D vwCl [(w, .inr (5, [.ref f5207_0, .int (nI ((κ w).2.2.1)), .int (nI f5207_2), .int (nI f5207_3), .int f5207_4, .int (nI f5207_5), .int f5207_6, .int f5207_7, .int f5207_8, .ref f5207_9, .int (nI f5207_10), .ref (κ w).2.2.2, .int f5207_12, .int f5207_13]))] _ := va_P.cons hat5207 va_P.nil
          refine va_get (D := D) (ci := 5) (v := .ref (κ w).2.2.2) (C := RX5) (T := TX5) (N := 14) hx hb hts iX5_readStatement_5 hown hN.1 hP 0 rfl rfl 11 (by decide) (hts _ mX5_readStatement_1) (fun _ h9 => h9) rfl dX5_readStatement_62 ?_
          obtain ⟨hb5208, e5208, hat5208, hk5208⟩ := hT.o7 hsu.1
          obtain ⟨f5208_0, f5208_1, f5208_2, f5208_3, f5208_4, f5208_5, f5208_6, f5208_7, rfl, c5208_0, c5208_3, c5208_mg, t5208_4, t5208_5, t5208_6, t5208_7⟩ := hk5208
          rw [hsu.2] at t5208_4
          rw [hsu.2] at t5208_5
          rw [hsu.2] at t5208_6
          rw [hsu.2] at t5208_7
          have hP : va_P D vwCl [((κ w).2.2.2, .inr (6, [.int (nI f5208_0), .int f5208_1, .int f5208_2, f5208_3, .ref f5208_4, .ref f5208_5, .ref f5208_6, .ref f5208_7])), (w, .inr (5, [.ref f5207_0, .int (nI ((κ w).2.2.1)), .int (nI f5207_2), .int (nI f5207_3), .int f5207_4, .int (nI f5207_5), .int f5207_6, .int f5207_7, .int f5207_8, .ref f5207_9, .int (nI f5207_10), .ref (κ w).2.2.2, .int f5207_12, .int f5207_13]))] _ := va_P.cons hat5208 hP
          refine va_getN (D := D) (ci := 6) (v := .int f5208_2) (C := RX6) (T := TX6) (N := 8) hx hb hts iX5_readStatement_6 hown hN.1 hP 0 rfl rfl 2 (by decide) (hN.f 42 rfl) (fun _ h9 => h9) rfl dX5_readStatement_65 ?_
          refine lv_if_ne (tgt := 76) hx hb dX5_readStatement_68 (by decide) (fun c5209 => ?_) (fun c5209 => ?_)
          · refine lv_aload_n hx hb dX5_readStatement_76 rfl (lv_at hl 0 rfl) ?_
            refine va_ldcS hx hb hown (hN.s 6 rfl) dX5_readStatement_77 ?_
            refine cv_i (As := [.ref (cs 106)]) (rest := []) (b := w) ⟨hx, hb, hml, hown, hts⟩ (c_X5_isWord hT (w := w) hw (i := 6) (by decide)) (cwV 1 hts gX5_readStatement_X5_isWord rfl rfl rfl hdX5_isWord_v ⟨Nat.le_of_ble_eq_true rfl, Nat.le_of_ble_eq_true rfl⟩) hN hE hL (rcv6 hN hT hw.1) rfl rfl hl.1 (Nat.le_of_ble_eq_true rfl) dX5_readStatement_79 (Nat.zero_le _) (Nat.zero_le _) (fun r5210 H1 locs hL hqr5210 => ?_)
            obtain ⟨h9, hqr5210⟩ := hqr5210; replace h9 := h9.symm; subst h9
            rcases hqr5210 with rfl | rfl
            · refine lv_if_eq (tgt := 133) hx hb dX5_readStatement_82 (by decide) (fun _ => ?_) (fun c9 => absurd (by decide) c9)
              refine lv_aload_n hx hb dX5_readStatement_133 rfl (lv_at hl 0 rfl) ?_
              refine lv_bipush (v := (-2)) hx hb dX5_readStatement_134 (by decide) ?_
              refine lv_aload_n hx hb dX5_readStatement_136 rfl (lv_at hl 0 rfl) ?_
              refine va_get (D := D) (ci := 5) (v := .int (nI f5207_5)) (C := RX5) (T := TX5) (N := 14) hx hb hts iX5_readStatement_5 hown hN.1 hP 1 rfl rfl 5 (by decide) (hts _ mX5_readStatement_7) (fun _ h9 => h9) rfl dX5_readStatement_137 ?_
              refine cv_i (As := [.int (-2), .int (nI f5207_5)]) (rest := []) (b := w) ⟨hx, hb, hml, hown, hts⟩ (c_X5_fail hT (w := w) hw (x := (-2)) (y := (nI f5207_5))) (cwV 2 hts gX5_readStatement_X5_fail rfl rfl rfl hdX5_fail_v ⟨Nat.le_of_ble_eq_true rfl, Nat.le_of_ble_eq_true rfl⟩) hN hE hL (rcv6 hN hT hw.1) rfl rfl hl.1 (Nat.le_of_ble_eq_true rfl) dX5_readStatement_140 (Nat.zero_le _) (Nat.zero_le _) (fun r5211 H1 locs hL hqr5211 => ?_)
              obtain ⟨hT1, hF1, hqr5211⟩ := hqr5211
              have hP : va_P D vwCl [((κ w).2.2.2, .inr (6, [.int (nI f5208_0), .int f5208_1, .int f5208_2, f5208_3, .ref f5208_4, .ref f5208_5, .ref f5208_6, .ref f5208_7]))] _ := hF1.hP (hP.sub [0] rfl) (fa_c ⟨by rw [hsu.1]; decide, by rw [hsu.2]; first | decide | (simp; done) | (simp; omega)⟩ fa_n)
              have hF := hF.tr (hF1.mono (by simp))
              have hT := hT1
              obtain rfl := hqr5211
              refine W.know (fun hg => ?_)
              rw [hH0] at hg
              exact en_i hx hb hr hlocks hL rfl (Nat.zero_le _) (Nat.zero_le _) dX5_readStatement_143 (⟨_, (fun _ _ _ => rfl), hT, hF, hsu, Or.inl ⟨rfl, hg⟩, Or.inl rfl⟩)
            · refine lv_if_eq (tgt := 133) hx hb dX5_readStatement_82 (by decide) (fun c9 => absurd c9 (by decide)) (fun _ => ?_)
              refine lv_aload_n hx hb dX5_readStatement_85 rfl (lv_at hl 0 rfl) ?_
              refine va_get (D := D) (ci := 5) (v := .ref (κ w).2.2.2) (C := RX5) (T := TX5) (N := 14) hx hb hts iX5_readStatement_5 hown hN.1 hP 1 rfl rfl 11 (by decide) (hts _ mX5_readStatement_1) (fun _ h9 => h9) rfl dX5_readStatement_86 ?_
              rcases c5208_3 with rfl | ⟨a5212, rfl, ta5212⟩
              · refine va_getN (D := D) (ci := 6) (v := .null) (C := RX6) (T := TX6) (N := 8) hx hb hts iX5_readStatement_6 hown hN.1 hP 0 rfl rfl 3 (by decide) (hN.f 44 rfl) (fun _ h9 => h9) rfl dX5_readStatement_89 ?_
                refine lv_ifnonnullN hx hb dX5_readStatement_92 ?_
                have hmg1 : (κ (κ w).2.2.2).2.2.1 ≠ 1 := (c5208_mg).resolve_right (by rintro ⟨_, h9⟩; cases h9)
                refine lv_aload_n hx hb dX5_readStatement_95 rfl (lv_at hl 0 rfl) ?_
                refine cv_v (As := []) (rest := []) (b := w) ⟨hx, hb, hml, hown, hts⟩ (c_X5_step hT (w := w) hw) (cwV 0 hts gX5_readStatement_X5_step rfl rfl rfl hdX5_step_v ⟨Nat.le_of_ble_eq_true rfl, Nat.le_of_ble_eq_true rfl⟩) hN hE hL (rcv6 hN hT hw.1) rfl rfl hl.1 (Nat.le_of_ble_eq_true rfl) dX5_readStatement_96 (Nat.zero_le _) (Nat.zero_le _) (fun H1 locs hL hqr5213 => ?_)
                obtain ⟨hT1, hF1, hqr5213⟩ := hqr5213
                have hP : va_P D vwCl [((κ w).2.2.2, .inr (6, [.int (nI f5208_0), .int f5208_1, .int f5208_2, .null, .ref f5208_4, .ref f5208_5, .ref f5208_6, .ref f5208_7]))] _ := hF1.hP (hP.sub [0] rfl) (fa_c ⟨by rw [hsu.1]; decide, by rw [hsu.2]; first | decide | (simp; done) | (simp; omega)⟩ fa_n)
                have hF := hF.tr (hF1.mono (by simp))
                have hT := hT1
                have f5214 := hqr5213
                refine lv_aload_n hx hb dX5_readStatement_99 rfl (lv_at hl 0 rfl) ?_
                refine lv_iconst (v := 0) hx hb dX5_readStatement_100 (by decide) ?_
                refine cv_i (As := [.int 0]) (rest := []) (b := w) ⟨hx, hb, hml, hown, hts⟩ (c_X5_readSum_d0 hT (w := w) hw) (cwV 1 hts gX5_readStatement_X5_readSum rfl rfl rfl hdX5_readSum_v ⟨Nat.le_of_ble_eq_true rfl, Nat.le_of_ble_eq_true rfl⟩) hN hE hL (rcv6 hN hT hw.1) rfl rfl hl.1 (Nat.le_of_ble_eq_true rfl) dX5_readStatement_101 (Nat.zero_le _) (Nat.zero_le _) (fun r5215 H1 locs hL hqr5215 => ?_)
                obtain ⟨hT1, hF1, hqr5215⟩ := hqr5215
                have hP : va_P D vwCl [((κ w).2.2.2, .inr (6, [.int (nI f5208_0), .int f5208_1, .int f5208_2, .null, .ref f5208_4, .ref f5208_5, .ref f5208_6, .ref f5208_7]))] _ := hF1.hP (hP.sub [0] rfl) (fa_c ⟨by rw [hsu.1]; decide, by rw [hsu.2]; first | decide | (simp; done) | (simp; omega)⟩ fa_n)
                have hF := hF.tr (hF1.mono (by simp))
                have hT := hT1
                rcases hqr5215 with rfl | rfl
                · refine lv_if_ne (tgt := 109) hx hb dX5_readStatement_104 (by decide) (fun c9 => absurd (by decide) c9) (fun _ => ?_)
                  refine lv_iconst (v := 0) hx hb dX5_readStatement_107 (by decide) ?_
                  refine W.know (fun hg => ?_)
                  rw [hH0] at hg
                  exact en_i hx hb hr hlocks hL rfl (Nat.zero_le _) (Nat.zero_le _) dX5_readStatement_108 (⟨_, (fun _ _ _ => rfl), hT, hF, hsu, Or.inl ⟨rfl, hg⟩, Or.inl rfl⟩)
                · refine lv_if_ne (tgt := 109) hx hb dX5_readStatement_104 (by decide) (fun _ => ?_) (fun c9 => absurd c9 (by decide))
                  refine lv_aload_n hx hb dX5_readStatement_109 rfl (lv_at hl 0 rfl) ?_
                  obtain ⟨hb5216, e5216, hat5216, hk5216⟩ := hT.o6 hw.1
                  obtain ⟨f5216_0, f5216_2, f5216_3, f5216_4, f5216_5, f5216_6, f5216_7, f5216_8, f5216_9, f5216_10, f5216_11, f5216_12, f5216_13, rfl, c5216_1, c5216_2, c5216_3, c5216_5, c5216_10, t5216_0, t5216_9, c5216_11, c5216_p2⟩ := hk5216
                  obtain rfl : f5216_11 = .ref (κ w).2.2.2 := c5216_p2.resolve_left hs0
                  have hP : va_P D vwCl [(w, .inr (5, [.ref f5216_0, .int (nI ((κ w).2.2.1)), .int (nI f5216_2), .int (nI f5216_3), .int f5216_4, .int (nI f5216_5), .int f5216_6, .int f5216_7, .int f5216_8, .ref f5216_9, .int (nI f5216_10), .ref (κ w).2.2.2, .int f5216_12, .int f5216_13])), ((κ w).2.2.2, .inr (6, [.int (nI f5208_0), .int f5208_1, .int f5208_2, .null, .ref f5208_4, .ref f5208_5, .ref f5208_6, .ref f5208_7]))] _ := va_P.cons hat5216 hP
                  refine va_get (D := D) (ci := 5) (v := .ref (κ w).2.2.2) (C := RX5) (T := TX5) (N := 14) hx hb hts iX5_readStatement_5 hown hN.1 hP 0 rfl rfl 11 (by decide) (hts _ mX5_readStatement_1) (fun _ h9 => h9) rfl dX5_readStatement_110 ?_
                  have hb0 : B0 ≤ _ := hT.b0 hw (by decide)
                  have hB : Bx B0 D _ [(w, .inr (5, [.ref f5216_0, .int (nI ((κ w).2.2.1)), .int (nI f5216_2), .int (nI f5216_3), .int f5216_4, .int (nI f5216_5), .int f5216_6, .int f5216_7, .int f5216_8, .ref f5216_9, .int (nI f5216_10), .ref (κ w).2.2.2, .int f5216_12, .int f5216_13])), ((κ w).2.2.2, .inr (6, [.int (nI f5208_0), .int f5208_1, .int f5208_2, .null, .ref f5208_4, .ref f5208_5, .ref f5208_6, .ref f5208_7]))] [] _ _ := Bx.of (fun a => (κ a).1) hL hP (fa_c hb5216 (fa_c hb5208 fa_n)) (by simp only [List.map_cons, List.map_nil, hw.1, hsu.1]; decide)
                  refine nw_o (ci := 0) (fs := [.null, .null]) (C := RX0) (T := TX0) (N := 2) hx hb hts iX5_readStatement_0 tyX0 tyX0_ok hown (hts _ mX5_readStatement_2) (hts _ mX5_readStatement_3) (hts _ mX5_readStatement_4) hN rfl dfl0 (show 0 + 1 ≤ 3 by omega) (show 0 + 2 ≤ 618 by omega) dX5_readStatement_113 (fun q5217 H heq5217 hzq5217 hoq5217 hatq5217 => ?_)
                  have hgeq5217 : _ ≤ q5217 := Nat.le_trans hB.2.2.1 (Nat.le_of_eq heq5217.symm)
                  have hbq5217 : B0 ≤ q5217 := Nat.le_trans hb0 hgeq5217
                  have hfq5217 : (κ q5217).1 = 0 := hT.fresh hgeq5217
                  have hB := hB.nw heq5217 hzq5217 hoq5217 hatq5217 hb0
                  have hB : Bx B0 D _ [(w, .inr (5, [.ref f5216_0, .int (nI ((κ w).2.2.1)), .int (nI f5216_2), .int (nI f5216_3), .int f5216_4, .int (nI f5216_5), .int f5216_6, .int f5216_7, .int f5216_8, .ref f5216_9, .int (nI f5216_10), .ref (κ w).2.2.2, .int f5216_12, .int f5216_13])), ((κ w).2.2.2, .inr (6, [.int (nI f5208_0), .int f5208_1, .int f5208_2, .null, .ref f5208_4, .ref f5208_5, .ref f5208_6, .ref f5208_7])), (q5217, .inr (0, [.null, .null]))] [] _ _ := hB
                  refine lv_dup hx hb dX5_readStatement_116 rfl ?_
                  refine lv_aload_n hx hb dX5_readStatement_117 rfl (lv_at hl 0 rfl) ?_
                  refine va_get (D := D) (ci := 5) (v := .ref f5216_9) (C := RX5) (T := TX5) (N := 14) hx hb hts iX5_readStatement_5 hown hN.1 hB.1 0 rfl rfl 9 (by decide) (hts _ mX5_readStatement_5) (fun _ h9 => h9) rfl dX5_readStatement_118 ?_
                  refine lv_aload_n hx hb dX5_readStatement_121 rfl (lv_at hl 0 rfl) ?_
                  refine va_get (D := D) (ci := 5) (v := .int (nI f5216_10)) (C := RX5) (T := TX5) (N := 14) hx hb hts iX5_readStatement_5 hown hN.1 hB.1 0 rfl rfl 10 (by decide) (hts _ mX5_readStatement_6) (fun _ h9 => h9) rfl dX5_readStatement_122 ?_
                  have hT : WT B0 D cs T κ _ := hT.close hB trivial
                  have hF : Fr B0 [10, 11] κ H0 _ := hF.close hB fa_n
                  have hL : OkL B0 _ := hB.2.2.2.2.2
                  have hP : va_P D vwCl [(w, .inr (5, [.ref f5216_0, .int (nI ((κ w).2.2.1)), .int (nI f5216_2), .int (nI f5216_3), .int f5216_4, .int (nI f5216_5), .int f5216_6, .int f5216_7, .int f5216_8, .ref f5216_9, .int (nI f5216_10), .ref (κ w).2.2.2, .int f5216_12, .int f5216_13])), ((κ w).2.2.2, .inr (6, [.int (nI f5208_0), .int f5208_1, .int f5208_2, .null, .ref f5208_4, .ref f5208_5, .ref f5208_6, .ref f5208_7])), (q5217, .inr (0, [.null, .null]))] _ := hB.1
                  refine ci_v (As := [.ref f5216_9, .int (nI f5216_10)]) (rest := [.ref q5217, .ref (κ w).2.2.2]) (b := q5217) ⟨hx, hb, hml, hown, hts⟩ (c_X0_init hT (w := q5217) hfq5217 hbq5217 (hP 2 _ rfl) (v := f5216_9) t5216_9 (n := f5216_10) (by first | omega | decide | assumption)) (cwI 2 hts gX5_readStatement_X0_init rfl rfl rfl (hts _ mX5_readStatement_4) (hts _ mX5_readStatement_156) (hts _ mX5_readStatement_157) rfl hdX0_init_o ⟨Nat.le_of_ble_eq_true rfl, Nat.le_of_ble_eq_true rfl⟩) hN hE hL rfl rfl hl.1 (Nat.le_of_ble_eq_true rfl) dX5_readStatement_125 (show 1 + 2 ≤ 3 by omega) (show (0 + 2) + 616 ≤ 618 by omega) (fun H1 locs hL hqr5218 => ?_)
                  obtain ⟨κr5218, hxr5218, hT1, hF1, hqr5218⟩ := hqr5218
                  have hF := hF.tr (hF1.mono (by simp))
                  have hT := hT1
                  have hKF : KF κ κr5218 := hxr5218.f
                  have hKX : KX κ κr5218 := hxr5218
                  have hw := (hxr5218.f.t2 hw (by decide))
                  have hsu := (hxr5218.f.t2 hsu (by decide))
                  have hq5217 := hqr5218
                  obtain ⟨hb5219, e5219, hat5219, hk5219⟩ := hT.o7 hsu.1
                  obtain ⟨f5219_0, f5219_1, f5219_2, f5219_3, f5219_4, f5219_5, f5219_6, f5219_7, rfl, c5219_0, c5219_3, c5219_mg, t5219_4, t5219_5, t5219_6, t5219_7⟩ := hk5219
                  rw [hsu.2] at t5219_4
                  rw [hsu.2] at t5219_5
                  rw [hsu.2] at t5219_6
                  rw [hsu.2] at t5219_7
                  have hP : va_P D vwCl [((κ w).2.2.2, .inr (6, [.int (nI f5219_0), .int f5219_1, .int f5219_2, f5219_3, .ref f5219_4, .ref f5219_5, .ref f5219_6, .ref f5219_7]))] _ := va_P.cons hat5219 va_P.nil
                  have hB : Bx B0 D _ [((κ w).2.2.2, .inr (6, [.int (nI f5219_0), .int f5219_1, .int f5219_2, f5219_3, .ref f5219_4, .ref f5219_5, .ref f5219_6, .ref f5219_7]))] [] _ _ := Bx.of (fun a => (κr5218 a).1) hL hP (fa_c hb5219 fa_n) (by simp only [List.map_cons, List.map_nil, hsu.1]; decide)
                  refine b_putN (D := D) (ci := 6) (v := .ref q5217) (ty := .object "OneBeat$Formula") (C := RX6) (T := TX6) (N := 8) hx hb hts iX5_readStatement_6 tyX6 tyX6_ok nmX6 hown hN hB 0 rfl rfl 3 (by decide) (hN.f 44 rfl) (fun _ h9 => h9) rfl (by decide +kernel) rfl rfl (Nat.le_of_ble_eq_true rfl) (.inl rfl) dX5_readStatement_128 (fun H locs hB => ?_)
                  have hB : Bx B0 D _ [((κ w).2.2.2, .inr (6, [.int (nI f5219_0), .int f5219_1, .int f5219_2, .ref q5217, .ref f5219_4, .ref f5219_5, .ref f5219_6, .ref f5219_7]))] [(κ w).2.2.2] _ _ := hB
                  refine lv_iconst (v := 1) hx hb dX5_readStatement_131 (by decide) ?_
                  have hF : Fr B0 [10, 11] κ H0 _ := hF.closeN hB (fa_c (fun h9 => by rw [← (hKF _ h9).2, hsu.2]; simp) fa_n)
                  have hT : WT B0 D cs T (kp κr5218 (κ w).2.2.2 1 0) _ := hT.closeK (κ w).2.2.2 1 0 hB (by rw [hsu.1]; decide) (by rw [hsu.1]; decide) (List.mem_of_getElem? (i := 0) rfl) ⟨⟨0, _, rfl, kp_ok (ok_7 (k := ((κr5218 (κ w).2.2.2).1, (κr5218 (κ w).2.2.2).2.1, _, _)) hsu.1 ⟨_, _, _, _, _, _, _, _, rfl, (by omega), (Or.inr ⟨_, rfl, (t2kp hq5217)⟩), (Or.inr ⟨_, rfl⟩), ⟨(t2kp t5219_4).1, by rw [hsu.2]; exact (t2kp t5219_4).2⟩, ⟨(t2kp t5219_5).1, by rw [hsu.2]; exact (t2kp t5219_5).2⟩, ⟨(t2kp t5219_6).1, by rw [hsu.2]; exact (t2kp t5219_6).2⟩, ⟨(t2kp t5219_7).1, by rw [hsu.2]; exact (t2kp t5219_7).2⟩⟩)⟩, trivial⟩
                  have hL : OkL B0 _ := hB.2.2.2.2.2
                  have hsu := t2kp (x := 1) (y := 0) (a := (κ w).2.2.2) hsu
                  refine W.know (fun hg => ?_)
                  rw [hH0] at hg
                  exact en_i hx hb hr hlocks hL rfl (show 3 ≤ 3 by omega) (show ((0 + 2) + 616) ≤ 618 by omega) dX5_readStatement_132 (⟨_, (fun a h1 h2 => (kp_n h2).trans (hKX a h1)), hT, hF, hsu, Or.inr ⟨hmg1, by rw [kp_a], hg.mono (by omega) (by omega)⟩, Or.inr rfl⟩)
              · refine va_getN (D := D) (ci := 6) (v := .ref a5212) (C := RX6) (T := TX6) (N := 8) hx hb hts iX5_readStatement_6 hown hN.1 hP 0 rfl rfl 3 (by decide) (hN.f 44 rfl) (fun _ h9 => h9) rfl dX5_readStatement_89 ?_
                refine lv_ifnonnull (tgt := 133) hx hb dX5_readStatement_92 (by decide) ?_
                refine lv_aload_n hx hb dX5_readStatement_133 rfl (lv_at hl 0 rfl) ?_
                refine lv_bipush (v := (-2)) hx hb dX5_readStatement_134 (by decide) ?_
                refine lv_aload_n hx hb dX5_readStatement_136 rfl (lv_at hl 0 rfl) ?_
                refine va_get (D := D) (ci := 5) (v := .int (nI f5207_5)) (C := RX5) (T := TX5) (N := 14) hx hb hts iX5_readStatement_5 hown hN.1 hP 1 rfl rfl 5 (by decide) (hts _ mX5_readStatement_7) (fun _ h9 => h9) rfl dX5_readStatement_137 ?_
                refine cv_i (As := [.int (-2), .int (nI f5207_5)]) (rest := []) (b := w) ⟨hx, hb, hml, hown, hts⟩ (c_X5_fail hT (w := w) hw (x := (-2)) (y := (nI f5207_5))) (cwV 2 hts gX5_readStatement_X5_fail rfl rfl rfl hdX5_fail_v ⟨Nat.le_of_ble_eq_true rfl, Nat.le_of_ble_eq_true rfl⟩) hN hE hL (rcv6 hN hT hw.1) rfl rfl hl.1 (Nat.le_of_ble_eq_true rfl) dX5_readStatement_140 (Nat.zero_le _) (Nat.zero_le _) (fun r5220 H1 locs hL hqr5220 => ?_)
                obtain ⟨hT1, hF1, hqr5220⟩ := hqr5220
                have hP : va_P D vwCl [((κ w).2.2.2, .inr (6, [.int (nI f5208_0), .int f5208_1, .int f5208_2, .ref a5212, .ref f5208_4, .ref f5208_5, .ref f5208_6, .ref f5208_7]))] _ := hF1.hP (hP.sub [0] rfl) (fa_c ⟨by rw [hsu.1]; decide, by rw [hsu.2]; first | decide | (simp; done) | (simp; omega)⟩ fa_n)
                have hF := hF.tr (hF1.mono (by simp))
                have hT := hT1
                obtain rfl := hqr5220
                refine W.know (fun hg => ?_)
                rw [hH0] at hg
                exact en_i hx hb hr hlocks hL rfl (Nat.zero_le _) (Nat.zero_le _) dX5_readStatement_143 (⟨_, (fun _ _ _ => rfl), hT, hF, hsu, Or.inl ⟨rfl, hg⟩, Or.inl rfl⟩)
          · refine lv_aload_n hx hb dX5_readStatement_71 rfl (lv_at hl 0 rfl) ?_
            refine cv_i (As := []) (rest := []) (b := w) ⟨hx, hb, hml, hown, hts⟩ (c_X5_readPatience hT (w := w) hw (by first | omega | decide | assumption) (by first | omega | decide | assumption)) (cwV 0 hts gX5_readStatement_X5_readPatience rfl rfl rfl hdX5_readPatience_v ⟨Nat.le_of_ble_eq_true rfl, Nat.le_of_ble_eq_true rfl⟩) hN hE hL (rcv6 hN hT hw.1) rfl rfl hl.1 (Nat.le_of_ble_eq_true rfl) dX5_readStatement_72 (Nat.zero_le _) (Nat.zero_le _) (fun r5221 H1 locs hL hqr5221 => ?_)
            obtain ⟨hT1, hF1, hqr5221⟩ := hqr5221
            have hF := hF.tr (hF1.mono (by simp))
            have hT := hT1
            rcases hqr5221 with rfl | rfl
            · refine W.know (fun hg => ?_)
              rw [hH0] at hg
              exact en_i hx hb hr hlocks hL rfl (Nat.zero_le _) (Nat.zero_le _) dX5_readStatement_75 (⟨_, (fun _ _ _ => rfl), hT, hF, hsu, Or.inl ⟨rfl, hg⟩, Or.inl rfl⟩)
            · refine W.know (fun hg => ?_)
              rw [hH0] at hg
              exact en_i hx hb hr hlocks hL rfl (Nat.zero_le _) (Nat.zero_le _) dX5_readStatement_75 (⟨_, (fun _ _ _ => rfl), hT, hF, hsu, Or.inl ⟨rfl, hg⟩, Or.inr rfl⟩)
      · refine lv_if_eq (tgt := 52) hx hb dX5_readStatement_34 (by decide) (fun c9 => absurd c9 (by decide)) (fun _ => ?_)
        refine lv_aload_n hx hb dX5_readStatement_37 rfl (lv_at hl 0 rfl) ?_
        obtain ⟨hb5222, e5222, hat5222, hk5222⟩ := hT.o6 hw.1
        obtain ⟨f5222_0, f5222_2, f5222_3, f5222_4, f5222_5, f5222_6, f5222_7, f5222_8, f5222_9, f5222_10, f5222_11, f5222_12, f5222_13, rfl, c5222_1, c5222_2, c5222_3, c5222_5, c5222_10, t5222_0, t5222_9, c5222_11, c5222_p2⟩ := hk5222
        obtain rfl : f5222_11 = .ref (κ w).2.2.2 := c5222_p2.resolve_left hs0
        have hP : va_P D vwCl [(w, .inr (5, [.ref f5222_0, .int (nI ((κ w).2.2.1)), .int (nI f5222_2), .int (nI f5222_3), .int f5222_4, .int (nI f5222_5), .int f5222_6, .int f5222_7, .int f5222_8, .ref f5222_9, .int (nI f5222_10), .ref (κ w).2.2.2, .int f5222_12, .int f5222_13]))] _ := va_P.cons hat5222 va_P.nil
        refine va_get (D := D) (ci := 5) (v := .ref (κ w).2.2.2) (C := RX5) (T := TX5) (N := 14) hx hb hts iX5_readStatement_5 hown hN.1 hP 0 rfl rfl 11 (by decide) (hts _ mX5_readStatement_1) (fun _ h9 => h9) rfl dX5_readStatement_38 ?_
        obtain ⟨hb5223, e5223, hat5223, hk5223⟩ := hT.o7 hsu.1
        obtain ⟨f5223_0, f5223_1, f5223_2, f5223_3, f5223_4, f5223_5, f5223_6, f5223_7, rfl, c5223_0, c5223_3, c5223_mg, t5223_4, t5223_5, t5223_6, t5223_7⟩ := hk5223
        rw [hsu.2] at t5223_4
        rw [hsu.2] at t5223_5
        rw [hsu.2] at t5223_6
        rw [hsu.2] at t5223_7
        have hP : va_P D vwCl [((κ w).2.2.2, .inr (6, [.int (nI f5223_0), .int f5223_1, .int f5223_2, f5223_3, .ref f5223_4, .ref f5223_5, .ref f5223_6, .ref f5223_7])), (w, .inr (5, [.ref f5222_0, .int (nI ((κ w).2.2.1)), .int (nI f5222_2), .int (nI f5222_3), .int f5222_4, .int (nI f5222_5), .int f5222_6, .int f5222_7, .int f5222_8, .ref f5222_9, .int (nI f5222_10), .ref (κ w).2.2.2, .int f5222_12, .int f5222_13]))] _ := va_P.cons hat5223 hP
        refine va_getN (D := D) (ci := 6) (v := .int f5223_1) (C := RX6) (T := TX6) (N := 8) hx hb hts iX5_readStatement_6 hown hN.1 hP 0 rfl rfl 1 (by decide) (hN.f 40 rfl) (fun _ h9 => h9) rfl dX5_readStatement_41 ?_
        refine lv_if_ne (tgt := 52) hx hb dX5_readStatement_44 (by decide) (fun c5224 => ?_) (fun c5224 => ?_)
        · refine lv_aload_n hx hb dX5_readStatement_52 rfl (lv_at hl 0 rfl) ?_
          refine va_ldcS hx hb hown (hN.s 5 rfl) dX5_readStatement_53 ?_
          refine cv_i (As := [.ref (cs 105)]) (rest := []) (b := w) ⟨hx, hb, hml, hown, hts⟩ (c_X5_isWord hT (w := w) hw (i := 5) (by decide)) (cwV 1 hts gX5_readStatement_X5_isWord rfl rfl rfl hdX5_isWord_v ⟨Nat.le_of_ble_eq_true rfl, Nat.le_of_ble_eq_true rfl⟩) hN hE hL (rcv6 hN hT hw.1) rfl rfl hl.1 (Nat.le_of_ble_eq_true rfl) dX5_readStatement_55 (Nat.zero_le _) (Nat.zero_le _) (fun r5225 H1 locs hL hqr5225 => ?_)
          obtain ⟨h9, hqr5225⟩ := hqr5225; replace h9 := h9.symm; subst h9
          rcases hqr5225 with rfl | rfl
          · refine lv_if_eq (tgt := 76) hx hb dX5_readStatement_58 (by decide) (fun _ => ?_) (fun c9 => absurd (by decide) c9)
            refine lv_aload_n hx hb dX5_readStatement_76 rfl (lv_at hl 0 rfl) ?_
            refine va_ldcS hx hb hown (hN.s 6 rfl) dX5_readStatement_77 ?_
            refine cv_i (As := [.ref (cs 106)]) (rest := []) (b := w) ⟨hx, hb, hml, hown, hts⟩ (c_X5_isWord hT (w := w) hw (i := 6) (by decide)) (cwV 1 hts gX5_readStatement_X5_isWord rfl rfl rfl hdX5_isWord_v ⟨Nat.le_of_ble_eq_true rfl, Nat.le_of_ble_eq_true rfl⟩) hN hE hL (rcv6 hN hT hw.1) rfl rfl hl.1 (Nat.le_of_ble_eq_true rfl) dX5_readStatement_79 (Nat.zero_le _) (Nat.zero_le _) (fun r5226 H1 locs hL hqr5226 => ?_)
            obtain ⟨h9, hqr5226⟩ := hqr5226; replace h9 := h9.symm; subst h9
            rcases hqr5226 with rfl | rfl
            · refine lv_if_eq (tgt := 133) hx hb dX5_readStatement_82 (by decide) (fun _ => ?_) (fun c9 => absurd (by decide) c9)
              refine lv_aload_n hx hb dX5_readStatement_133 rfl (lv_at hl 0 rfl) ?_
              refine lv_bipush (v := (-2)) hx hb dX5_readStatement_134 (by decide) ?_
              refine lv_aload_n hx hb dX5_readStatement_136 rfl (lv_at hl 0 rfl) ?_
              refine va_get (D := D) (ci := 5) (v := .int (nI f5222_5)) (C := RX5) (T := TX5) (N := 14) hx hb hts iX5_readStatement_5 hown hN.1 hP 1 rfl rfl 5 (by decide) (hts _ mX5_readStatement_7) (fun _ h9 => h9) rfl dX5_readStatement_137 ?_
              refine cv_i (As := [.int (-2), .int (nI f5222_5)]) (rest := []) (b := w) ⟨hx, hb, hml, hown, hts⟩ (c_X5_fail hT (w := w) hw (x := (-2)) (y := (nI f5222_5))) (cwV 2 hts gX5_readStatement_X5_fail rfl rfl rfl hdX5_fail_v ⟨Nat.le_of_ble_eq_true rfl, Nat.le_of_ble_eq_true rfl⟩) hN hE hL (rcv6 hN hT hw.1) rfl rfl hl.1 (Nat.le_of_ble_eq_true rfl) dX5_readStatement_140 (Nat.zero_le _) (Nat.zero_le _) (fun r5227 H1 locs hL hqr5227 => ?_)
              obtain ⟨hT1, hF1, hqr5227⟩ := hqr5227
              have hP : va_P D vwCl [((κ w).2.2.2, .inr (6, [.int (nI f5223_0), .int f5223_1, .int f5223_2, f5223_3, .ref f5223_4, .ref f5223_5, .ref f5223_6, .ref f5223_7]))] _ := hF1.hP (hP.sub [0] rfl) (fa_c ⟨by rw [hsu.1]; decide, by rw [hsu.2]; first | decide | (simp; done) | (simp; omega)⟩ fa_n)
              have hF := hF.tr (hF1.mono (by simp))
              have hT := hT1
              obtain rfl := hqr5227
              refine W.know (fun hg => ?_)
              rw [hH0] at hg
              exact en_i hx hb hr hlocks hL rfl (Nat.zero_le _) (Nat.zero_le _) dX5_readStatement_143 (⟨_, (fun _ _ _ => rfl), hT, hF, hsu, Or.inl ⟨rfl, hg⟩, Or.inl rfl⟩)
            · refine lv_if_eq (tgt := 133) hx hb dX5_readStatement_82 (by decide) (fun c9 => absurd c9 (by decide)) (fun _ => ?_)
              refine lv_aload_n hx hb dX5_readStatement_85 rfl (lv_at hl 0 rfl) ?_
              refine va_get (D := D) (ci := 5) (v := .ref (κ w).2.2.2) (C := RX5) (T := TX5) (N := 14) hx hb hts iX5_readStatement_5 hown hN.1 hP 1 rfl rfl 11 (by decide) (hts _ mX5_readStatement_1) (fun _ h9 => h9) rfl dX5_readStatement_86 ?_
              rcases c5223_3 with rfl | ⟨a5228, rfl, ta5228⟩
              · refine va_getN (D := D) (ci := 6) (v := .null) (C := RX6) (T := TX6) (N := 8) hx hb hts iX5_readStatement_6 hown hN.1 hP 0 rfl rfl 3 (by decide) (hN.f 44 rfl) (fun _ h9 => h9) rfl dX5_readStatement_89 ?_
                refine lv_ifnonnullN hx hb dX5_readStatement_92 ?_
                have hmg1 : (κ (κ w).2.2.2).2.2.1 ≠ 1 := (c5223_mg).resolve_right (by rintro ⟨_, h9⟩; cases h9)
                refine lv_aload_n hx hb dX5_readStatement_95 rfl (lv_at hl 0 rfl) ?_
                refine cv_v (As := []) (rest := []) (b := w) ⟨hx, hb, hml, hown, hts⟩ (c_X5_step hT (w := w) hw) (cwV 0 hts gX5_readStatement_X5_step rfl rfl rfl hdX5_step_v ⟨Nat.le_of_ble_eq_true rfl, Nat.le_of_ble_eq_true rfl⟩) hN hE hL (rcv6 hN hT hw.1) rfl rfl hl.1 (Nat.le_of_ble_eq_true rfl) dX5_readStatement_96 (Nat.zero_le _) (Nat.zero_le _) (fun H1 locs hL hqr5229 => ?_)
                obtain ⟨hT1, hF1, hqr5229⟩ := hqr5229
                have hP : va_P D vwCl [((κ w).2.2.2, .inr (6, [.int (nI f5223_0), .int f5223_1, .int f5223_2, .null, .ref f5223_4, .ref f5223_5, .ref f5223_6, .ref f5223_7]))] _ := hF1.hP (hP.sub [0] rfl) (fa_c ⟨by rw [hsu.1]; decide, by rw [hsu.2]; first | decide | (simp; done) | (simp; omega)⟩ fa_n)
                have hF := hF.tr (hF1.mono (by simp))
                have hT := hT1
                have f5230 := hqr5229
                refine lv_aload_n hx hb dX5_readStatement_99 rfl (lv_at hl 0 rfl) ?_
                refine lv_iconst (v := 0) hx hb dX5_readStatement_100 (by decide) ?_
                refine cv_i (As := [.int 0]) (rest := []) (b := w) ⟨hx, hb, hml, hown, hts⟩ (c_X5_readSum_d0 hT (w := w) hw) (cwV 1 hts gX5_readStatement_X5_readSum rfl rfl rfl hdX5_readSum_v ⟨Nat.le_of_ble_eq_true rfl, Nat.le_of_ble_eq_true rfl⟩) hN hE hL (rcv6 hN hT hw.1) rfl rfl hl.1 (Nat.le_of_ble_eq_true rfl) dX5_readStatement_101 (Nat.zero_le _) (Nat.zero_le _) (fun r5231 H1 locs hL hqr5231 => ?_)
                obtain ⟨hT1, hF1, hqr5231⟩ := hqr5231
                have hP : va_P D vwCl [((κ w).2.2.2, .inr (6, [.int (nI f5223_0), .int f5223_1, .int f5223_2, .null, .ref f5223_4, .ref f5223_5, .ref f5223_6, .ref f5223_7]))] _ := hF1.hP (hP.sub [0] rfl) (fa_c ⟨by rw [hsu.1]; decide, by rw [hsu.2]; first | decide | (simp; done) | (simp; omega)⟩ fa_n)
                have hF := hF.tr (hF1.mono (by simp))
                have hT := hT1
                rcases hqr5231 with rfl | rfl
                · refine lv_if_ne (tgt := 109) hx hb dX5_readStatement_104 (by decide) (fun c9 => absurd (by decide) c9) (fun _ => ?_)
                  refine lv_iconst (v := 0) hx hb dX5_readStatement_107 (by decide) ?_
                  refine W.know (fun hg => ?_)
                  rw [hH0] at hg
                  exact en_i hx hb hr hlocks hL rfl (Nat.zero_le _) (Nat.zero_le _) dX5_readStatement_108 (⟨_, (fun _ _ _ => rfl), hT, hF, hsu, Or.inl ⟨rfl, hg⟩, Or.inl rfl⟩)
                · refine lv_if_ne (tgt := 109) hx hb dX5_readStatement_104 (by decide) (fun _ => ?_) (fun c9 => absurd c9 (by decide))
                  refine lv_aload_n hx hb dX5_readStatement_109 rfl (lv_at hl 0 rfl) ?_
                  obtain ⟨hb5232, e5232, hat5232, hk5232⟩ := hT.o6 hw.1
                  obtain ⟨f5232_0, f5232_2, f5232_3, f5232_4, f5232_5, f5232_6, f5232_7, f5232_8, f5232_9, f5232_10, f5232_11, f5232_12, f5232_13, rfl, c5232_1, c5232_2, c5232_3, c5232_5, c5232_10, t5232_0, t5232_9, c5232_11, c5232_p2⟩ := hk5232
                  obtain rfl : f5232_11 = .ref (κ w).2.2.2 := c5232_p2.resolve_left hs0
                  have hP : va_P D vwCl [(w, .inr (5, [.ref f5232_0, .int (nI ((κ w).2.2.1)), .int (nI f5232_2), .int (nI f5232_3), .int f5232_4, .int (nI f5232_5), .int f5232_6, .int f5232_7, .int f5232_8, .ref f5232_9, .int (nI f5232_10), .ref (κ w).2.2.2, .int f5232_12, .int f5232_13])), ((κ w).2.2.2, .inr (6, [.int (nI f5223_0), .int f5223_1, .int f5223_2, .null, .ref f5223_4, .ref f5223_5, .ref f5223_6, .ref f5223_7]))] _ := va_P.cons hat5232 hP
                  refine va_get (D := D) (ci := 5) (v := .ref (κ w).2.2.2) (C := RX5) (T := TX5) (N := 14) hx hb hts iX5_readStatement_5 hown hN.1 hP 0 rfl rfl 11 (by decide) (hts _ mX5_readStatement_1) (fun _ h9 => h9) rfl dX5_readStatement_110 ?_
                  have hb0 : B0 ≤ _ := hT.b0 hw (by decide)
                  have hB : Bx B0 D _ [(w, .inr (5, [.ref f5232_0, .int (nI ((κ w).2.2.1)), .int (nI f5232_2), .int (nI f5232_3), .int f5232_4, .int (nI f5232_5), .int f5232_6, .int f5232_7, .int f5232_8, .ref f5232_9, .int (nI f5232_10), .ref (κ w).2.2.2, .int f5232_12, .int f5232_13])), ((κ w).2.2.2, .inr (6, [.int (nI f5223_0), .int f5223_1, .int f5223_2, .null, .ref f5223_4, .ref f5223_5, .ref f5223_6, .ref f5223_7]))] [] _ _ := Bx.of (fun a => (κ a).1) hL hP (fa_c hb5232 (fa_c hb5223 fa_n)) (by simp only [List.map_cons, List.map_nil, hw.1, hsu.1]; decide)
                  refine nw_o (ci := 0) (fs := [.null, .null]) (C := RX0) (T := TX0) (N := 2) hx hb hts iX5_readStatement_0 tyX0 tyX0_ok hown (hts _ mX5_readStatement_2) (hts _ mX5_readStatement_3) (hts _ mX5_readStatement_4) hN rfl dfl0 (show 0 + 1 ≤ 3 by omega) (show 0 + 2 ≤ 618 by omega) dX5_readStatement_113 (fun q5233 H heq5233 hzq5233 hoq5233 hatq5233 => ?_)
                  have hgeq5233 : _ ≤ q5233 := Nat.le_trans hB.2.2.1 (Nat.le_of_eq heq5233.symm)
                  have hbq5233 : B0 ≤ q5233 := Nat.le_trans hb0 hgeq5233
                  have hfq5233 : (κ q5233).1 = 0 := hT.fresh hgeq5233
                  have hB := hB.nw heq5233 hzq5233 hoq5233 hatq5233 hb0
                  have hB : Bx B0 D _ [(w, .inr (5, [.ref f5232_0, .int (nI ((κ w).2.2.1)), .int (nI f5232_2), .int (nI f5232_3), .int f5232_4, .int (nI f5232_5), .int f5232_6, .int f5232_7, .int f5232_8, .ref f5232_9, .int (nI f5232_10), .ref (κ w).2.2.2, .int f5232_12, .int f5232_13])), ((κ w).2.2.2, .inr (6, [.int (nI f5223_0), .int f5223_1, .int f5223_2, .null, .ref f5223_4, .ref f5223_5, .ref f5223_6, .ref f5223_7])), (q5233, .inr (0, [.null, .null]))] [] _ _ := hB
                  refine lv_dup hx hb dX5_readStatement_116 rfl ?_
                  refine lv_aload_n hx hb dX5_readStatement_117 rfl (lv_at hl 0 rfl) ?_
                  refine va_get (D := D) (ci := 5) (v := .ref f5232_9) (C := RX5) (T := TX5) (N := 14) hx hb hts iX5_readStatement_5 hown hN.1 hB.1 0 rfl rfl 9 (by decide) (hts _ mX5_readStatement_5) (fun _ h9 => h9) rfl dX5_readStatement_118 ?_
                  refine lv_aload_n hx hb dX5_readStatement_121 rfl (lv_at hl 0 rfl) ?_
                  refine va_get (D := D) (ci := 5) (v := .int (nI f5232_10)) (C := RX5) (T := TX5) (N := 14) hx hb hts iX5_readStatement_5 hown hN.1 hB.1 0 rfl rfl 10 (by decide) (hts _ mX5_readStatement_6) (fun _ h9 => h9) rfl dX5_readStatement_122 ?_
                  have hT : WT B0 D cs T κ _ := hT.close hB trivial
                  have hF : Fr B0 [10, 11] κ H0 _ := hF.close hB fa_n
                  have hL : OkL B0 _ := hB.2.2.2.2.2
                  have hP : va_P D vwCl [(w, .inr (5, [.ref f5232_0, .int (nI ((κ w).2.2.1)), .int (nI f5232_2), .int (nI f5232_3), .int f5232_4, .int (nI f5232_5), .int f5232_6, .int f5232_7, .int f5232_8, .ref f5232_9, .int (nI f5232_10), .ref (κ w).2.2.2, .int f5232_12, .int f5232_13])), ((κ w).2.2.2, .inr (6, [.int (nI f5223_0), .int f5223_1, .int f5223_2, .null, .ref f5223_4, .ref f5223_5, .ref f5223_6, .ref f5223_7])), (q5233, .inr (0, [.null, .null]))] _ := hB.1
                  refine ci_v (As := [.ref f5232_9, .int (nI f5232_10)]) (rest := [.ref q5233, .ref (κ w).2.2.2]) (b := q5233) ⟨hx, hb, hml, hown, hts⟩ (c_X0_init hT (w := q5233) hfq5233 hbq5233 (hP 2 _ rfl) (v := f5232_9) t5232_9 (n := f5232_10) (by first | omega | decide | assumption)) (cwI 2 hts gX5_readStatement_X0_init rfl rfl rfl (hts _ mX5_readStatement_4) (hts _ mX5_readStatement_156) (hts _ mX5_readStatement_157) rfl hdX0_init_o ⟨Nat.le_of_ble_eq_true rfl, Nat.le_of_ble_eq_true rfl⟩) hN hE hL rfl rfl hl.1 (Nat.le_of_ble_eq_true rfl) dX5_readStatement_125 (show 1 + 2 ≤ 3 by omega) (show (0 + 2) + 616 ≤ 618 by omega) (fun H1 locs hL hqr5234 => ?_)
                  obtain ⟨κr5234, hxr5234, hT1, hF1, hqr5234⟩ := hqr5234
                  have hF := hF.tr (hF1.mono (by simp))
                  have hT := hT1
                  have hKF : KF κ κr5234 := hxr5234.f
                  have hKX : KX κ κr5234 := hxr5234
                  have hw := (hxr5234.f.t2 hw (by decide))
                  have hsu := (hxr5234.f.t2 hsu (by decide))
                  have hq5233 := hqr5234
                  obtain ⟨hb5235, e5235, hat5235, hk5235⟩ := hT.o7 hsu.1
                  obtain ⟨f5235_0, f5235_1, f5235_2, f5235_3, f5235_4, f5235_5, f5235_6, f5235_7, rfl, c5235_0, c5235_3, c5235_mg, t5235_4, t5235_5, t5235_6, t5235_7⟩ := hk5235
                  rw [hsu.2] at t5235_4
                  rw [hsu.2] at t5235_5
                  rw [hsu.2] at t5235_6
                  rw [hsu.2] at t5235_7
                  have hP : va_P D vwCl [((κ w).2.2.2, .inr (6, [.int (nI f5235_0), .int f5235_1, .int f5235_2, f5235_3, .ref f5235_4, .ref f5235_5, .ref f5235_6, .ref f5235_7]))] _ := va_P.cons hat5235 va_P.nil
                  have hB : Bx B0 D _ [((κ w).2.2.2, .inr (6, [.int (nI f5235_0), .int f5235_1, .int f5235_2, f5235_3, .ref f5235_4, .ref f5235_5, .ref f5235_6, .ref f5235_7]))] [] _ _ := Bx.of (fun a => (κr5234 a).1) hL hP (fa_c hb5235 fa_n) (by simp only [List.map_cons, List.map_nil, hsu.1]; decide)
                  refine b_putN (D := D) (ci := 6) (v := .ref q5233) (ty := .object "OneBeat$Formula") (C := RX6) (T := TX6) (N := 8) hx hb hts iX5_readStatement_6 tyX6 tyX6_ok nmX6 hown hN hB 0 rfl rfl 3 (by decide) (hN.f 44 rfl) (fun _ h9 => h9) rfl (by decide +kernel) rfl rfl (Nat.le_of_ble_eq_true rfl) (.inl rfl) dX5_readStatement_128 (fun H locs hB => ?_)
                  have hB : Bx B0 D _ [((κ w).2.2.2, .inr (6, [.int (nI f5235_0), .int f5235_1, .int f5235_2, .ref q5233, .ref f5235_4, .ref f5235_5, .ref f5235_6, .ref f5235_7]))] [(κ w).2.2.2] _ _ := hB
                  refine lv_iconst (v := 1) hx hb dX5_readStatement_131 (by decide) ?_
                  have hF : Fr B0 [10, 11] κ H0 _ := hF.closeN hB (fa_c (fun h9 => by rw [← (hKF _ h9).2, hsu.2]; simp) fa_n)
                  have hT : WT B0 D cs T (kp κr5234 (κ w).2.2.2 1 0) _ := hT.closeK (κ w).2.2.2 1 0 hB (by rw [hsu.1]; decide) (by rw [hsu.1]; decide) (List.mem_of_getElem? (i := 0) rfl) ⟨⟨0, _, rfl, kp_ok (ok_7 (k := ((κr5234 (κ w).2.2.2).1, (κr5234 (κ w).2.2.2).2.1, _, _)) hsu.1 ⟨_, _, _, _, _, _, _, _, rfl, (by omega), (Or.inr ⟨_, rfl, (t2kp hq5233)⟩), (Or.inr ⟨_, rfl⟩), ⟨(t2kp t5235_4).1, by rw [hsu.2]; exact (t2kp t5235_4).2⟩, ⟨(t2kp t5235_5).1, by rw [hsu.2]; exact (t2kp t5235_5).2⟩, ⟨(t2kp t5235_6).1, by rw [hsu.2]; exact (t2kp t5235_6).2⟩, ⟨(t2kp t5235_7).1, by rw [hsu.2]; exact (t2kp t5235_7).2⟩⟩)⟩, trivial⟩
                  have hL : OkL B0 _ := hB.2.2.2.2.2
                  have hsu := t2kp (x := 1) (y := 0) (a := (κ w).2.2.2) hsu
                  refine W.know (fun hg => ?_)
                  rw [hH0] at hg
                  exact en_i hx hb hr hlocks hL rfl (show 3 ≤ 3 by omega) (show ((0 + 2) + 616) ≤ 618 by omega) dX5_readStatement_132 (⟨_, (fun a h1 h2 => (kp_n h2).trans (hKX a h1)), hT, hF, hsu, Or.inr ⟨hmg1, by rw [kp_a], hg.mono (by omega) (by omega)⟩, Or.inr rfl⟩)
              · refine va_getN (D := D) (ci := 6) (v := .ref a5228) (C := RX6) (T := TX6) (N := 8) hx hb hts iX5_readStatement_6 hown hN.1 hP 0 rfl rfl 3 (by decide) (hN.f 44 rfl) (fun _ h9 => h9) rfl dX5_readStatement_89 ?_
                refine lv_ifnonnull (tgt := 133) hx hb dX5_readStatement_92 (by decide) ?_
                refine lv_aload_n hx hb dX5_readStatement_133 rfl (lv_at hl 0 rfl) ?_
                refine lv_bipush (v := (-2)) hx hb dX5_readStatement_134 (by decide) ?_
                refine lv_aload_n hx hb dX5_readStatement_136 rfl (lv_at hl 0 rfl) ?_
                refine va_get (D := D) (ci := 5) (v := .int (nI f5222_5)) (C := RX5) (T := TX5) (N := 14) hx hb hts iX5_readStatement_5 hown hN.1 hP 1 rfl rfl 5 (by decide) (hts _ mX5_readStatement_7) (fun _ h9 => h9) rfl dX5_readStatement_137 ?_
                refine cv_i (As := [.int (-2), .int (nI f5222_5)]) (rest := []) (b := w) ⟨hx, hb, hml, hown, hts⟩ (c_X5_fail hT (w := w) hw (x := (-2)) (y := (nI f5222_5))) (cwV 2 hts gX5_readStatement_X5_fail rfl rfl rfl hdX5_fail_v ⟨Nat.le_of_ble_eq_true rfl, Nat.le_of_ble_eq_true rfl⟩) hN hE hL (rcv6 hN hT hw.1) rfl rfl hl.1 (Nat.le_of_ble_eq_true rfl) dX5_readStatement_140 (Nat.zero_le _) (Nat.zero_le _) (fun r5236 H1 locs hL hqr5236 => ?_)
                obtain ⟨hT1, hF1, hqr5236⟩ := hqr5236
                have hP : va_P D vwCl [((κ w).2.2.2, .inr (6, [.int (nI f5223_0), .int f5223_1, .int f5223_2, .ref a5228, .ref f5223_4, .ref f5223_5, .ref f5223_6, .ref f5223_7]))] _ := hF1.hP (hP.sub [0] rfl) (fa_c ⟨by rw [hsu.1]; decide, by rw [hsu.2]; first | decide | (simp; done) | (simp; omega)⟩ fa_n)
                have hF := hF.tr (hF1.mono (by simp))
                have hT := hT1
                obtain rfl := hqr5236
                refine W.know (fun hg => ?_)
                rw [hH0] at hg
                exact en_i hx hb hr hlocks hL rfl (Nat.zero_le _) (Nat.zero_le _) dX5_readStatement_143 (⟨_, (fun _ _ _ => rfl), hT, hF, hsu, Or.inl ⟨rfl, hg⟩, Or.inl rfl⟩)
          · refine lv_if_eq (tgt := 76) hx hb dX5_readStatement_58 (by decide) (fun c9 => absurd c9 (by decide)) (fun _ => ?_)
            refine lv_aload_n hx hb dX5_readStatement_61 rfl (lv_at hl 0 rfl) ?_
            refine va_get (D := D) (ci := 5) (v := .ref (κ w).2.2.2) (C := RX5) (T := TX5) (N := 14) hx hb hts iX5_readStatement_5 hown hN.1 hP 1 rfl rfl 11 (by decide) (hts _ mX5_readStatement_1) (fun _ h9 => h9) rfl dX5_readStatement_62 ?_
            refine va_getN (D := D) (ci := 6) (v := .int f5223_2) (C := RX6) (T := TX6) (N := 8) hx hb hts iX5_readStatement_6 hown hN.1 hP 0 rfl rfl 2 (by decide) (hN.f 42 rfl) (fun _ h9 => h9) rfl dX5_readStatement_65 ?_
            refine lv_if_ne (tgt := 76) hx hb dX5_readStatement_68 (by decide) (fun c5237 => ?_) (fun c5237 => ?_)
            · refine lv_aload_n hx hb dX5_readStatement_76 rfl (lv_at hl 0 rfl) ?_
              refine va_ldcS hx hb hown (hN.s 6 rfl) dX5_readStatement_77 ?_
              refine cv_i (As := [.ref (cs 106)]) (rest := []) (b := w) ⟨hx, hb, hml, hown, hts⟩ (c_X5_isWord hT (w := w) hw (i := 6) (by decide)) (cwV 1 hts gX5_readStatement_X5_isWord rfl rfl rfl hdX5_isWord_v ⟨Nat.le_of_ble_eq_true rfl, Nat.le_of_ble_eq_true rfl⟩) hN hE hL (rcv6 hN hT hw.1) rfl rfl hl.1 (Nat.le_of_ble_eq_true rfl) dX5_readStatement_79 (Nat.zero_le _) (Nat.zero_le _) (fun r5238 H1 locs hL hqr5238 => ?_)
              obtain ⟨h9, hqr5238⟩ := hqr5238; replace h9 := h9.symm; subst h9
              rcases hqr5238 with rfl | rfl
              · refine lv_if_eq (tgt := 133) hx hb dX5_readStatement_82 (by decide) (fun _ => ?_) (fun c9 => absurd (by decide) c9)
                refine lv_aload_n hx hb dX5_readStatement_133 rfl (lv_at hl 0 rfl) ?_
                refine lv_bipush (v := (-2)) hx hb dX5_readStatement_134 (by decide) ?_
                refine lv_aload_n hx hb dX5_readStatement_136 rfl (lv_at hl 0 rfl) ?_
                refine va_get (D := D) (ci := 5) (v := .int (nI f5222_5)) (C := RX5) (T := TX5) (N := 14) hx hb hts iX5_readStatement_5 hown hN.1 hP 1 rfl rfl 5 (by decide) (hts _ mX5_readStatement_7) (fun _ h9 => h9) rfl dX5_readStatement_137 ?_
                refine cv_i (As := [.int (-2), .int (nI f5222_5)]) (rest := []) (b := w) ⟨hx, hb, hml, hown, hts⟩ (c_X5_fail hT (w := w) hw (x := (-2)) (y := (nI f5222_5))) (cwV 2 hts gX5_readStatement_X5_fail rfl rfl rfl hdX5_fail_v ⟨Nat.le_of_ble_eq_true rfl, Nat.le_of_ble_eq_true rfl⟩) hN hE hL (rcv6 hN hT hw.1) rfl rfl hl.1 (Nat.le_of_ble_eq_true rfl) dX5_readStatement_140 (Nat.zero_le _) (Nat.zero_le _) (fun r5239 H1 locs hL hqr5239 => ?_)
                obtain ⟨hT1, hF1, hqr5239⟩ := hqr5239
                have hP : va_P D vwCl [((κ w).2.2.2, .inr (6, [.int (nI f5223_0), .int f5223_1, .int f5223_2, f5223_3, .ref f5223_4, .ref f5223_5, .ref f5223_6, .ref f5223_7]))] _ := hF1.hP (hP.sub [0] rfl) (fa_c ⟨by rw [hsu.1]; decide, by rw [hsu.2]; first | decide | (simp; done) | (simp; omega)⟩ fa_n)
                have hF := hF.tr (hF1.mono (by simp))
                have hT := hT1
                obtain rfl := hqr5239
                refine W.know (fun hg => ?_)
                rw [hH0] at hg
                exact en_i hx hb hr hlocks hL rfl (Nat.zero_le _) (Nat.zero_le _) dX5_readStatement_143 (⟨_, (fun _ _ _ => rfl), hT, hF, hsu, Or.inl ⟨rfl, hg⟩, Or.inl rfl⟩)
              · refine lv_if_eq (tgt := 133) hx hb dX5_readStatement_82 (by decide) (fun c9 => absurd c9 (by decide)) (fun _ => ?_)
                refine lv_aload_n hx hb dX5_readStatement_85 rfl (lv_at hl 0 rfl) ?_
                refine va_get (D := D) (ci := 5) (v := .ref (κ w).2.2.2) (C := RX5) (T := TX5) (N := 14) hx hb hts iX5_readStatement_5 hown hN.1 hP 1 rfl rfl 11 (by decide) (hts _ mX5_readStatement_1) (fun _ h9 => h9) rfl dX5_readStatement_86 ?_
                rcases c5223_3 with rfl | ⟨a5240, rfl, ta5240⟩
                · refine va_getN (D := D) (ci := 6) (v := .null) (C := RX6) (T := TX6) (N := 8) hx hb hts iX5_readStatement_6 hown hN.1 hP 0 rfl rfl 3 (by decide) (hN.f 44 rfl) (fun _ h9 => h9) rfl dX5_readStatement_89 ?_
                  refine lv_ifnonnullN hx hb dX5_readStatement_92 ?_
                  have hmg1 : (κ (κ w).2.2.2).2.2.1 ≠ 1 := (c5223_mg).resolve_right (by rintro ⟨_, h9⟩; cases h9)
                  refine lv_aload_n hx hb dX5_readStatement_95 rfl (lv_at hl 0 rfl) ?_
                  refine cv_v (As := []) (rest := []) (b := w) ⟨hx, hb, hml, hown, hts⟩ (c_X5_step hT (w := w) hw) (cwV 0 hts gX5_readStatement_X5_step rfl rfl rfl hdX5_step_v ⟨Nat.le_of_ble_eq_true rfl, Nat.le_of_ble_eq_true rfl⟩) hN hE hL (rcv6 hN hT hw.1) rfl rfl hl.1 (Nat.le_of_ble_eq_true rfl) dX5_readStatement_96 (Nat.zero_le _) (Nat.zero_le _) (fun H1 locs hL hqr5241 => ?_)
                  obtain ⟨hT1, hF1, hqr5241⟩ := hqr5241
                  have hP : va_P D vwCl [((κ w).2.2.2, .inr (6, [.int (nI f5223_0), .int f5223_1, .int f5223_2, .null, .ref f5223_4, .ref f5223_5, .ref f5223_6, .ref f5223_7]))] _ := hF1.hP (hP.sub [0] rfl) (fa_c ⟨by rw [hsu.1]; decide, by rw [hsu.2]; first | decide | (simp; done) | (simp; omega)⟩ fa_n)
                  have hF := hF.tr (hF1.mono (by simp))
                  have hT := hT1
                  have f5242 := hqr5241
                  refine lv_aload_n hx hb dX5_readStatement_99 rfl (lv_at hl 0 rfl) ?_
                  refine lv_iconst (v := 0) hx hb dX5_readStatement_100 (by decide) ?_
                  refine cv_i (As := [.int 0]) (rest := []) (b := w) ⟨hx, hb, hml, hown, hts⟩ (c_X5_readSum_d0 hT (w := w) hw) (cwV 1 hts gX5_readStatement_X5_readSum rfl rfl rfl hdX5_readSum_v ⟨Nat.le_of_ble_eq_true rfl, Nat.le_of_ble_eq_true rfl⟩) hN hE hL (rcv6 hN hT hw.1) rfl rfl hl.1 (Nat.le_of_ble_eq_true rfl) dX5_readStatement_101 (Nat.zero_le _) (Nat.zero_le _) (fun r5243 H1 locs hL hqr5243 => ?_)
                  obtain ⟨hT1, hF1, hqr5243⟩ := hqr5243
                  have hP : va_P D vwCl [((κ w).2.2.2, .inr (6, [.int (nI f5223_0), .int f5223_1, .int f5223_2, .null, .ref f5223_4, .ref f5223_5, .ref f5223_6, .ref f5223_7]))] _ := hF1.hP (hP.sub [0] rfl) (fa_c ⟨by rw [hsu.1]; decide, by rw [hsu.2]; first | decide | (simp; done) | (simp; omega)⟩ fa_n)
                  have hF := hF.tr (hF1.mono (by simp))
                  have hT := hT1
                  rcases hqr5243 with rfl | rfl
                  · refine lv_if_ne (tgt := 109) hx hb dX5_readStatement_104 (by decide) (fun c9 => absurd (by decide) c9) (fun _ => ?_)
                    refine lv_iconst (v := 0) hx hb dX5_readStatement_107 (by decide) ?_
                    refine W.know (fun hg => ?_)
                    rw [hH0] at hg
                    exact en_i hx hb hr hlocks hL rfl (Nat.zero_le _) (Nat.zero_le _) dX5_readStatement_108 (⟨_, (fun _ _ _ => rfl), hT, hF, hsu, Or.inl ⟨rfl, hg⟩, Or.inl rfl⟩)
                  · refine lv_if_ne (tgt := 109) hx hb dX5_readStatement_104 (by decide) (fun _ => ?_) (fun c9 => absurd c9 (by decide))
                    refine lv_aload_n hx hb dX5_readStatement_109 rfl (lv_at hl 0 rfl) ?_
                    obtain ⟨hb5244, e5244, hat5244, hk5244⟩ := hT.o6 hw.1
                    obtain ⟨f5244_0, f5244_2, f5244_3, f5244_4, f5244_5, f5244_6, f5244_7, f5244_8, f5244_9, f5244_10, f5244_11, f5244_12, f5244_13, rfl, c5244_1, c5244_2, c5244_3, c5244_5, c5244_10, t5244_0, t5244_9, c5244_11, c5244_p2⟩ := hk5244
                    obtain rfl : f5244_11 = .ref (κ w).2.2.2 := c5244_p2.resolve_left hs0
                    have hP : va_P D vwCl [(w, .inr (5, [.ref f5244_0, .int (nI ((κ w).2.2.1)), .int (nI f5244_2), .int (nI f5244_3), .int f5244_4, .int (nI f5244_5), .int f5244_6, .int f5244_7, .int f5244_8, .ref f5244_9, .int (nI f5244_10), .ref (κ w).2.2.2, .int f5244_12, .int f5244_13])), ((κ w).2.2.2, .inr (6, [.int (nI f5223_0), .int f5223_1, .int f5223_2, .null, .ref f5223_4, .ref f5223_5, .ref f5223_6, .ref f5223_7]))] _ := va_P.cons hat5244 hP
                    refine va_get (D := D) (ci := 5) (v := .ref (κ w).2.2.2) (C := RX5) (T := TX5) (N := 14) hx hb hts iX5_readStatement_5 hown hN.1 hP 0 rfl rfl 11 (by decide) (hts _ mX5_readStatement_1) (fun _ h9 => h9) rfl dX5_readStatement_110 ?_
                    have hb0 : B0 ≤ _ := hT.b0 hw (by decide)
                    have hB : Bx B0 D _ [(w, .inr (5, [.ref f5244_0, .int (nI ((κ w).2.2.1)), .int (nI f5244_2), .int (nI f5244_3), .int f5244_4, .int (nI f5244_5), .int f5244_6, .int f5244_7, .int f5244_8, .ref f5244_9, .int (nI f5244_10), .ref (κ w).2.2.2, .int f5244_12, .int f5244_13])), ((κ w).2.2.2, .inr (6, [.int (nI f5223_0), .int f5223_1, .int f5223_2, .null, .ref f5223_4, .ref f5223_5, .ref f5223_6, .ref f5223_7]))] [] _ _ := Bx.of (fun a => (κ a).1) hL hP (fa_c hb5244 (fa_c hb5223 fa_n)) (by simp only [List.map_cons, List.map_nil, hw.1, hsu.1]; decide)
                    refine nw_o (ci := 0) (fs := [.null, .null]) (C := RX0) (T := TX0) (N := 2) hx hb hts iX5_readStatement_0 tyX0 tyX0_ok hown (hts _ mX5_readStatement_2) (hts _ mX5_readStatement_3) (hts _ mX5_readStatement_4) hN rfl dfl0 (show 0 + 1 ≤ 3 by omega) (show 0 + 2 ≤ 618 by omega) dX5_readStatement_113 (fun q5245 H heq5245 hzq5245 hoq5245 hatq5245 => ?_)
                    have hgeq5245 : _ ≤ q5245 := Nat.le_trans hB.2.2.1 (Nat.le_of_eq heq5245.symm)
                    have hbq5245 : B0 ≤ q5245 := Nat.le_trans hb0 hgeq5245
                    have hfq5245 : (κ q5245).1 = 0 := hT.fresh hgeq5245
                    have hB := hB.nw heq5245 hzq5245 hoq5245 hatq5245 hb0
                    have hB : Bx B0 D _ [(w, .inr (5, [.ref f5244_0, .int (nI ((κ w).2.2.1)), .int (nI f5244_2), .int (nI f5244_3), .int f5244_4, .int (nI f5244_5), .int f5244_6, .int f5244_7, .int f5244_8, .ref f5244_9, .int (nI f5244_10), .ref (κ w).2.2.2, .int f5244_12, .int f5244_13])), ((κ w).2.2.2, .inr (6, [.int (nI f5223_0), .int f5223_1, .int f5223_2, .null, .ref f5223_4, .ref f5223_5, .ref f5223_6, .ref f5223_7])), (q5245, .inr (0, [.null, .null]))] [] _ _ := hB
                    refine lv_dup hx hb dX5_readStatement_116 rfl ?_
                    refine lv_aload_n hx hb dX5_readStatement_117 rfl (lv_at hl 0 rfl) ?_
                    refine va_get (D := D) (ci := 5) (v := .ref f5244_9) (C := RX5) (T := TX5) (N := 14) hx hb hts iX5_readStatement_5 hown hN.1 hB.1 0 rfl rfl 9 (by decide) (hts _ mX5_readStatement_5) (fun _ h9 => h9) rfl dX5_readStatement_118 ?_
                    refine lv_aload_n hx hb dX5_readStatement_121 rfl (lv_at hl 0 rfl) ?_
                    refine va_get (D := D) (ci := 5) (v := .int (nI f5244_10)) (C := RX5) (T := TX5) (N := 14) hx hb hts iX5_readStatement_5 hown hN.1 hB.1 0 rfl rfl 10 (by decide) (hts _ mX5_readStatement_6) (fun _ h9 => h9) rfl dX5_readStatement_122 ?_
                    have hT : WT B0 D cs T κ _ := hT.close hB trivial
                    have hF : Fr B0 [10, 11] κ H0 _ := hF.close hB fa_n
                    have hL : OkL B0 _ := hB.2.2.2.2.2
                    have hP : va_P D vwCl [(w, .inr (5, [.ref f5244_0, .int (nI ((κ w).2.2.1)), .int (nI f5244_2), .int (nI f5244_3), .int f5244_4, .int (nI f5244_5), .int f5244_6, .int f5244_7, .int f5244_8, .ref f5244_9, .int (nI f5244_10), .ref (κ w).2.2.2, .int f5244_12, .int f5244_13])), ((κ w).2.2.2, .inr (6, [.int (nI f5223_0), .int f5223_1, .int f5223_2, .null, .ref f5223_4, .ref f5223_5, .ref f5223_6, .ref f5223_7])), (q5245, .inr (0, [.null, .null]))] _ := hB.1
                    refine ci_v (As := [.ref f5244_9, .int (nI f5244_10)]) (rest := [.ref q5245, .ref (κ w).2.2.2]) (b := q5245) ⟨hx, hb, hml, hown, hts⟩ (c_X0_init hT (w := q5245) hfq5245 hbq5245 (hP 2 _ rfl) (v := f5244_9) t5244_9 (n := f5244_10) (by first | omega | decide | assumption)) (cwI 2 hts gX5_readStatement_X0_init rfl rfl rfl (hts _ mX5_readStatement_4) (hts _ mX5_readStatement_156) (hts _ mX5_readStatement_157) rfl hdX0_init_o ⟨Nat.le_of_ble_eq_true rfl, Nat.le_of_ble_eq_true rfl⟩) hN hE hL rfl rfl hl.1 (Nat.le_of_ble_eq_true rfl) dX5_readStatement_125 (show 1 + 2 ≤ 3 by omega) (show (0 + 2) + 616 ≤ 618 by omega) (fun H1 locs hL hqr5246 => ?_)
                    obtain ⟨κr5246, hxr5246, hT1, hF1, hqr5246⟩ := hqr5246
                    have hF := hF.tr (hF1.mono (by simp))
                    have hT := hT1
                    have hKF : KF κ κr5246 := hxr5246.f
                    have hKX : KX κ κr5246 := hxr5246
                    have hw := (hxr5246.f.t2 hw (by decide))
                    have hsu := (hxr5246.f.t2 hsu (by decide))
                    have hq5245 := hqr5246
                    obtain ⟨hb5247, e5247, hat5247, hk5247⟩ := hT.o7 hsu.1
                    obtain ⟨f5247_0, f5247_1, f5247_2, f5247_3, f5247_4, f5247_5, f5247_6, f5247_7, rfl, c5247_0, c5247_3, c5247_mg, t5247_4, t5247_5, t5247_6, t5247_7⟩ := hk5247
                    rw [hsu.2] at t5247_4
                    rw [hsu.2] at t5247_5
                    rw [hsu.2] at t5247_6
                    rw [hsu.2] at t5247_7
                    have hP : va_P D vwCl [((κ w).2.2.2, .inr (6, [.int (nI f5247_0), .int f5247_1, .int f5247_2, f5247_3, .ref f5247_4, .ref f5247_5, .ref f5247_6, .ref f5247_7]))] _ := va_P.cons hat5247 va_P.nil
                    have hB : Bx B0 D _ [((κ w).2.2.2, .inr (6, [.int (nI f5247_0), .int f5247_1, .int f5247_2, f5247_3, .ref f5247_4, .ref f5247_5, .ref f5247_6, .ref f5247_7]))] [] _ _ := Bx.of (fun a => (κr5246 a).1) hL hP (fa_c hb5247 fa_n) (by simp only [List.map_cons, List.map_nil, hsu.1]; decide)
                    refine b_putN (D := D) (ci := 6) (v := .ref q5245) (ty := .object "OneBeat$Formula") (C := RX6) (T := TX6) (N := 8) hx hb hts iX5_readStatement_6 tyX6 tyX6_ok nmX6 hown hN hB 0 rfl rfl 3 (by decide) (hN.f 44 rfl) (fun _ h9 => h9) rfl (by decide +kernel) rfl rfl (Nat.le_of_ble_eq_true rfl) (.inl rfl) dX5_readStatement_128 (fun H locs hB => ?_)
                    have hB : Bx B0 D _ [((κ w).2.2.2, .inr (6, [.int (nI f5247_0), .int f5247_1, .int f5247_2, .ref q5245, .ref f5247_4, .ref f5247_5, .ref f5247_6, .ref f5247_7]))] [(κ w).2.2.2] _ _ := hB
                    refine lv_iconst (v := 1) hx hb dX5_readStatement_131 (by decide) ?_
                    have hF : Fr B0 [10, 11] κ H0 _ := hF.closeN hB (fa_c (fun h9 => by rw [← (hKF _ h9).2, hsu.2]; simp) fa_n)
                    have hT : WT B0 D cs T (kp κr5246 (κ w).2.2.2 1 0) _ := hT.closeK (κ w).2.2.2 1 0 hB (by rw [hsu.1]; decide) (by rw [hsu.1]; decide) (List.mem_of_getElem? (i := 0) rfl) ⟨⟨0, _, rfl, kp_ok (ok_7 (k := ((κr5246 (κ w).2.2.2).1, (κr5246 (κ w).2.2.2).2.1, _, _)) hsu.1 ⟨_, _, _, _, _, _, _, _, rfl, (by omega), (Or.inr ⟨_, rfl, (t2kp hq5245)⟩), (Or.inr ⟨_, rfl⟩), ⟨(t2kp t5247_4).1, by rw [hsu.2]; exact (t2kp t5247_4).2⟩, ⟨(t2kp t5247_5).1, by rw [hsu.2]; exact (t2kp t5247_5).2⟩, ⟨(t2kp t5247_6).1, by rw [hsu.2]; exact (t2kp t5247_6).2⟩, ⟨(t2kp t5247_7).1, by rw [hsu.2]; exact (t2kp t5247_7).2⟩⟩)⟩, trivial⟩
                    have hL : OkL B0 _ := hB.2.2.2.2.2
                    have hsu := t2kp (x := 1) (y := 0) (a := (κ w).2.2.2) hsu
                    refine W.know (fun hg => ?_)
                    rw [hH0] at hg
                    exact en_i hx hb hr hlocks hL rfl (show 3 ≤ 3 by omega) (show ((0 + 2) + 616) ≤ 618 by omega) dX5_readStatement_132 (⟨_, (fun a h1 h2 => (kp_n h2).trans (hKX a h1)), hT, hF, hsu, Or.inr ⟨hmg1, by rw [kp_a], hg.mono (by omega) (by omega)⟩, Or.inr rfl⟩)
                · refine va_getN (D := D) (ci := 6) (v := .ref a5240) (C := RX6) (T := TX6) (N := 8) hx hb hts iX5_readStatement_6 hown hN.1 hP 0 rfl rfl 3 (by decide) (hN.f 44 rfl) (fun _ h9 => h9) rfl dX5_readStatement_89 ?_
                  refine lv_ifnonnull (tgt := 133) hx hb dX5_readStatement_92 (by decide) ?_
                  refine lv_aload_n hx hb dX5_readStatement_133 rfl (lv_at hl 0 rfl) ?_
                  refine lv_bipush (v := (-2)) hx hb dX5_readStatement_134 (by decide) ?_
                  refine lv_aload_n hx hb dX5_readStatement_136 rfl (lv_at hl 0 rfl) ?_
                  refine va_get (D := D) (ci := 5) (v := .int (nI f5222_5)) (C := RX5) (T := TX5) (N := 14) hx hb hts iX5_readStatement_5 hown hN.1 hP 1 rfl rfl 5 (by decide) (hts _ mX5_readStatement_7) (fun _ h9 => h9) rfl dX5_readStatement_137 ?_
                  refine cv_i (As := [.int (-2), .int (nI f5222_5)]) (rest := []) (b := w) ⟨hx, hb, hml, hown, hts⟩ (c_X5_fail hT (w := w) hw (x := (-2)) (y := (nI f5222_5))) (cwV 2 hts gX5_readStatement_X5_fail rfl rfl rfl hdX5_fail_v ⟨Nat.le_of_ble_eq_true rfl, Nat.le_of_ble_eq_true rfl⟩) hN hE hL (rcv6 hN hT hw.1) rfl rfl hl.1 (Nat.le_of_ble_eq_true rfl) dX5_readStatement_140 (Nat.zero_le _) (Nat.zero_le _) (fun r5248 H1 locs hL hqr5248 => ?_)
                  obtain ⟨hT1, hF1, hqr5248⟩ := hqr5248
                  have hP : va_P D vwCl [((κ w).2.2.2, .inr (6, [.int (nI f5223_0), .int f5223_1, .int f5223_2, .ref a5240, .ref f5223_4, .ref f5223_5, .ref f5223_6, .ref f5223_7]))] _ := hF1.hP (hP.sub [0] rfl) (fa_c ⟨by rw [hsu.1]; decide, by rw [hsu.2]; first | decide | (simp; done) | (simp; omega)⟩ fa_n)
                  have hF := hF.tr (hF1.mono (by simp))
                  have hT := hT1
                  obtain rfl := hqr5248
                  refine W.know (fun hg => ?_)
                  rw [hH0] at hg
                  exact en_i hx hb hr hlocks hL rfl (Nat.zero_le _) (Nat.zero_le _) dX5_readStatement_143 (⟨_, (fun _ _ _ => rfl), hT, hF, hsu, Or.inl ⟨rfl, hg⟩, Or.inl rfl⟩)
            · refine lv_aload_n hx hb dX5_readStatement_71 rfl (lv_at hl 0 rfl) ?_
              refine cv_i (As := []) (rest := []) (b := w) ⟨hx, hb, hml, hown, hts⟩ (c_X5_readPatience hT (w := w) hw (by first | omega | decide | assumption) (by first | omega | decide | assumption)) (cwV 0 hts gX5_readStatement_X5_readPatience rfl rfl rfl hdX5_readPatience_v ⟨Nat.le_of_ble_eq_true rfl, Nat.le_of_ble_eq_true rfl⟩) hN hE hL (rcv6 hN hT hw.1) rfl rfl hl.1 (Nat.le_of_ble_eq_true rfl) dX5_readStatement_72 (Nat.zero_le _) (Nat.zero_le _) (fun r5249 H1 locs hL hqr5249 => ?_)
              obtain ⟨hT1, hF1, hqr5249⟩ := hqr5249
              have hF := hF.tr (hF1.mono (by simp))
              have hT := hT1
              rcases hqr5249 with rfl | rfl
              · refine W.know (fun hg => ?_)
                rw [hH0] at hg
                exact en_i hx hb hr hlocks hL rfl (Nat.zero_le _) (Nat.zero_le _) dX5_readStatement_75 (⟨_, (fun _ _ _ => rfl), hT, hF, hsu, Or.inl ⟨rfl, hg⟩, Or.inl rfl⟩)
              · refine W.know (fun hg => ?_)
                rw [hH0] at hg
                exact en_i hx hb hr hlocks hL rfl (Nat.zero_le _) (Nat.zero_le _) dX5_readStatement_75 (⟨_, (fun _ _ _ => rfl), hT, hF, hsu, Or.inl ⟨rfl, hg⟩, Or.inr rfl⟩)
        · refine lv_aload_n hx hb dX5_readStatement_47 rfl (lv_at hl 0 rfl) ?_
          refine cv_i (As := []) (rest := []) (b := w) ⟨hx, hb, hml, hown, hts⟩ (c_X5_readNeed hT (w := w) hw (by first | omega | decide | assumption) (by first | omega | decide | assumption)) (cwV 0 hts gX5_readStatement_X5_readNeed rfl rfl rfl hdX5_readNeed_v ⟨Nat.le_of_ble_eq_true rfl, Nat.le_of_ble_eq_true rfl⟩) hN hE hL (rcv6 hN hT hw.1) rfl rfl hl.1 (Nat.le_of_ble_eq_true rfl) dX5_readStatement_48 (Nat.zero_le _) (Nat.zero_le _) (fun r5250 H1 locs hL hqr5250 => ?_)
          obtain ⟨hT1, hF1, hqr5250⟩ := hqr5250
          have hF := hF.tr (hF1.mono (by simp))
          have hT := hT1
          rcases hqr5250 with rfl | rfl
          · refine W.know (fun hg => ?_)
            rw [hH0] at hg
            exact en_i hx hb hr hlocks hL rfl (Nat.zero_le _) (Nat.zero_le _) dX5_readStatement_51 (⟨_, (fun _ _ _ => rfl), hT, hF, hsu, Or.inl ⟨rfl, hg⟩, Or.inl rfl⟩)
          · refine W.know (fun hg => ?_)
            rw [hH0] at hg
            exact en_i hx hb hr hlocks hL rfl (Nat.zero_le _) (Nat.zero_le _) dX5_readStatement_51 (⟨_, (fun _ _ _ => rfl), hT, hF, hsu, Or.inl ⟨rfl, hg⟩, Or.inr rfl⟩)
    · refine lv_if_eq (tgt := 28) hx hb dX5_readStatement_20 (by decide) (fun c9 => absurd c9 (by decide)) (fun _ => ?_)
      refine lv_aload_n hx hb dX5_readStatement_23 rfl (lv_at hl 0 rfl) ?_
      refine cv_i (As := []) (rest := []) (b := w) ⟨hx, hb, hml, hown, hts⟩ (c_X5_readLink hT (w := w) hw (by first | omega | decide | assumption) (by first | omega | decide | assumption)) (cwV 0 hts gX5_readStatement_X5_readLink rfl rfl rfl hdX5_readLink_v ⟨Nat.le_of_ble_eq_true rfl, Nat.le_of_ble_eq_true rfl⟩) hN hE hL (rcv6 hN hT hw.1) rfl rfl hl.1 (Nat.le_of_ble_eq_true rfl) dX5_readStatement_24 (Nat.zero_le _) (Nat.zero_le _) (fun r5251 H1 locs hL hqr5251 => ?_)
      obtain ⟨hT1, hF1, hqr5251⟩ := hqr5251
      have hF := hF.tr (hF1.mono (by simp))
      have hT := hT1
      rcases hqr5251 with rfl | rfl
      · refine W.know (fun hg => ?_)
        rw [hH0] at hg
        exact en_i hx hb hr hlocks hL rfl (Nat.zero_le _) (Nat.zero_le _) dX5_readStatement_27 (⟨_, (fun _ _ _ => rfl), hT, hF, hsu, Or.inl ⟨rfl, hg⟩, Or.inl rfl⟩)
      · refine W.know (fun hg => ?_)
        rw [hH0] at hg
        exact en_i hx hb hr hlocks hL rfl (Nat.zero_le _) (Nat.zero_le _) dX5_readStatement_27 (⟨_, (fun _ _ _ => rfl), hT, hF, hsu, Or.inl ⟨rfl, hg⟩, Or.inr rfl⟩)
  · refine lv_if_eq (tgt := 14) hx hb dX5_readStatement_6 (by decide) (fun c9 => absurd c9 (by decide)) (fun _ => ?_)
    refine lv_aload_n hx hb dX5_readStatement_9 rfl (lv_at hl 0 rfl) ?_
    refine cv_i (As := []) (rest := []) (b := w) ⟨hx, hb, hml, hown, hts⟩ (c_X5_readClock hT (w := w) hw (by first | omega | decide | assumption) (by first | omega | decide | assumption)) (cwV 0 hts gX5_readStatement_X5_readClock rfl rfl rfl hdX5_readClock_v ⟨Nat.le_of_ble_eq_true rfl, Nat.le_of_ble_eq_true rfl⟩) hN hE hL (rcv6 hN hT hw.1) rfl rfl hl.1 (Nat.le_of_ble_eq_true rfl) dX5_readStatement_10 (Nat.zero_le _) (Nat.zero_le _) (fun r5252 H1 locs hL hqr5252 => ?_)
    obtain ⟨hT1, hF1, hqr5252⟩ := hqr5252
    have hF := hF.tr (hF1.mono (by simp))
    have hT := hT1
    rcases hqr5252 with rfl | rfl
    · refine W.know (fun hg => ?_)
      rw [hH0] at hg
      exact en_i hx hb hr hlocks hL rfl (Nat.zero_le _) (Nat.zero_le _) dX5_readStatement_13 (⟨_, (fun _ _ _ => rfl), hT, hF, hsu, Or.inl ⟨rfl, hg⟩, Or.inl rfl⟩)
    · refine W.know (fun hg => ?_)
      rw [hH0] at hg
      exact en_i hx hb hr hlocks hL rfl (Nat.zero_le _) (Nat.zero_le _) dX5_readStatement_13 (⟨_, (fun _ _ _ => rfl), hT, hF, hsu, Or.inl ⟨rfl, hg⟩, Or.inr rfl⟩)
theorem mX5_read_1 : (.fieldLink RX5 11 "OneBeat$Reader" "text" "[B" : Cond) ∈ wsX5_read := List.mem_of_getElem? (i := 1) (by decide +kernel)
theorem iX5_read_5 : ∀ w ∈ wsX50, w ∈ wsX5_read := fun w h => List.mem_of_mem_drop (List.mem_of_mem_take ((show wsX50 = (wsX5_read.drop 210).take 14 by decide +kernel) ▸ h))
theorem mX5_read_2 : (.methodLink RX5 23 Lib.Math.min.name : Cond) ∈ wsX5_read := List.mem_of_getElem? (i := 2) (by decide +kernel)
theorem mX5_read_3 : (.static Lib.Math.min.name : Cond) ∈ wsX5_read := List.mem_of_getElem? (i := 3) (by decide +kernel)
theorem mX5_read_4 : (.initialized "java/lang/Math" : Cond) ∈ wsX5_read := List.mem_of_getElem? (i := 4) (by decide +kernel)
theorem mX5_read_5 : (.code Lib.Math.min.name Lib.Math.min.code 2 (some .int) : Cond) ∈ wsX5_read := List.mem_of_getElem? (i := 5) (by decide +kernel)
theorem mX5_read_6 : (.methodLink RX5 29 Lib.Math.max.name : Cond) ∈ wsX5_read := List.mem_of_getElem? (i := 6) (by decide +kernel)
theorem mX5_read_7 : (.static Lib.Math.max.name : Cond) ∈ wsX5_read := List.mem_of_getElem? (i := 7) (by decide +kernel)
theorem mX5_read_8 : (.code Lib.Math.max.name Lib.Math.max.code 2 (some .int) : Cond) ∈ wsX5_read := List.mem_of_getElem? (i := 8) (by decide +kernel)
theorem mX5_read_9 : (.fieldLink RX5 32 "OneBeat$Reader" "length" "I" : Cond) ∈ wsX5_read := List.mem_of_getElem? (i := 9) (by decide +kernel)
theorem mX5_read_10 : (.fieldLink RX5 19 "OneBeat$Reader" "stored" "I" : Cond) ∈ wsX5_read := List.mem_of_getElem? (i := 10) (by decide +kernel)
theorem mX5_read_11 : (.fieldLink RX5 35 "OneBeat$Reader" "position" "I" : Cond) ∈ wsX5_read := List.mem_of_getElem? (i := 11) (by decide +kernel)
theorem mX5_read_12 : (.fieldLink RX5 38 "OneBeat$Reader" "codeCount" "I" : Cond) ∈ wsX5_read := List.mem_of_getElem? (i := 12) (by decide +kernel)
theorem mX5_read_13 : (.fieldLink RX5 41 "OneBeat$Reader" "errorStart" "I" : Cond) ∈ wsX5_read := List.mem_of_getElem? (i := 13) (by decide +kernel)
theorem hdX5_takeWord_v : yX5_takeWord.cls = RX5 ∧ yX5_takeWord.cls ≠ "java/lang/invoke/MethodHandle" ∧ yX5_takeWord.cls ≠ "java/lang/invoke/VarHandle" ∧ (parseMethodDescriptor yX5_takeWord.desc).map (fun d => d.parameters.length) = some 1 := by decide +kernel
theorem iX5_read_6 : ∀ w ∈ wsX60, w ∈ wsX5_read := fun w h => List.mem_of_mem_drop (List.mem_of_mem_take ((show wsX60 = (wsX5_read.drop 224).take 8 by decide +kernel) ▸ h))
theorem mX5_read_14 : (.classLink RX5 53 RX6 : Cond) ∈ wsX5_read := List.mem_of_getElem? (i := 14) (by decide +kernel)
theorem mX5_read_15 : (.instantiable RX6 8 : Cond) ∈ wsX5_read := List.mem_of_getElem? (i := 15) (by decide +kernel)
theorem mX5_read_16 : (.initialized RX6 : Cond) ∈ wsX5_read := List.mem_of_getElem? (i := 16) (by decide +kernel)
theorem dfl6 : ∀ j, j < 8 → defaultValue (tyX6 j) = vp_V [.int 0, .int 0, .int 0, .null, .null, .null, .null, .null] j := by decide +kernel
theorem mX5_read_17 : (.fieldLink RX5 59 "OneBeat$Reader" "taken" "I" : Cond) ∈ wsX5_read := List.mem_of_getElem? (i := 17) (by decide +kernel)
theorem mX5_read_96 : (.instanceMethod yX6_init : Cond) ∈ wsX5_read := List.mem_of_getElem? (i := 96) (by decide +kernel)
theorem mX5_read_95 : (.methodLink RX5 62 yX6_init : Cond) ∈ wsX5_read := List.mem_of_getElem? (i := 95) (by decide +kernel)
theorem hdX6_init_o : yX6_init.cls ≠ "java/lang/invoke/MethodHandle" ∧ yX6_init.cls ≠ "java/lang/invoke/VarHandle" ∧ (parseMethodDescriptor yX6_init.desc).map (fun d => d.parameters.length) = some 1 := by decide +kernel
theorem mX5_read_18 : (.fieldLink RX5 65 "OneBeat$Reader" "setup" "LOneBeat$Setup;" : Cond) ∈ wsX5_read := List.mem_of_getElem? (i := 18) (by decide +kernel)
theorem hdX6_fillIn_v : yX6_fillIn.cls = RX6 ∧ yX6_fillIn.cls ≠ "java/lang/invoke/MethodHandle" ∧ yX6_fillIn.cls ≠ "java/lang/invoke/VarHandle" ∧ (parseMethodDescriptor yX6_fillIn.desc).map (fun d => d.parameters.length) = some 0 := by decide +kernel
theorem mX5_read_19 : (.fieldLink RX5 73 "OneBeat$Reader" "kind" "I" : Cond) ∈ wsX5_read := List.mem_of_getElem? (i := 19) (by decide +kernel)
theorem hdX5_readStatement_v : yX5_readStatement.cls = RX5 ∧ yX5_readStatement.cls ≠ "java/lang/invoke/MethodHandle" ∧ yX5_readStatement.cls ≠ "java/lang/invoke/VarHandle" ∧ (parseMethodDescriptor yX5_readStatement.desc).map (fun d => d.parameters.length) = some 0 := by decide +kernel
set_option maxHeartbeats 4000000 in
set_option maxRecDepth 100000 in
theorem c_X5_read {l : Launch} {D : va_G} {cs : Nat → ClassId} {B0 T : Nat} {κ : KM} {H0 : Heap} (hT : WT B0 D cs T κ H0) {w : Nat} (hw : T2 κ w 6 10) {n : Nat} (hn : n ≤ 600) : KC l yX5_read wsX5_read 22 487 11 1332 D cs B0 H0 [.ref w, .int (nI n)] (Qn (fun r H => ∃ κ1, (∀ a, (κ a).1 ≠ 0 → a ≠ w → (κ a).2.1 ≠ 11 → κ1 a = κ a) ∧ (∀ a, (κ a).1 ≠ 0 → (κ1 a).1 = (κ a).1) ∧ T2 κ1 w 6 10 ∧ (κ1 w).2.2.1 = 0 ∧ WT B0 D cs T κ1 H ∧ Fr B0 [10, 11] κ H0 H ∧ Gr H0 H 8 714 ∧ (r = .null ∨ ∃ q, r = .ref q ∧ T2 κ1 q 7 15))) := by
  refine KC.of cX5_read 3 (some (.object "OneBeat$Setup")) (by decide) rfl (Nat.le_of_ble_eq_true rfl) ?_
  intro p e s m below meth c ls hx hb hr hml hown hts hlocks hin hN hE hH0 hl
  have hown : s.vm.findClass RX5 = some m.cls := hown
  have hl : lv_has ls 3 [(0, .ref w), (1, .int (nI n))] := hl
  have hL : OkL B0 [] := OkL.nil
  have hF : Fr B0 [10, 11] κ H0 H0 := Fr.rf
  refine lv_aload_n hx hb dX5_read_0 rfl (lv_at hl 0 rfl) ?_
  refine lv_iconst (v := 0) hx hb dX5_read_1 (by decide) ?_
  refine lv_iload_n hx hb dX5_read_2 rfl (lv_at hl 1 rfl) ?_
  refine lv_aload_n hx hb dX5_read_3 rfl (lv_at hl 0 rfl) ?_
  obtain ⟨hb5253, e5253, hat5253, hk5253⟩ := hT.o6 hw.1
  obtain ⟨f5253_0, f5253_2, f5253_3, f5253_4, f5253_5, f5253_6, f5253_7, f5253_8, f5253_9, f5253_10, f5253_11, f5253_12, f5253_13, rfl, c5253_1, c5253_2, c5253_3, c5253_5, c5253_10, t5253_0, t5253_9, c5253_11, c5253_p2⟩ := hk5253
  have hP : va_P D vwCl [(w, .inr (5, [.ref f5253_0, .int (nI ((κ w).2.2.1)), .int (nI f5253_2), .int (nI f5253_3), .int f5253_4, .int (nI f5253_5), .int f5253_6, .int f5253_7, .int f5253_8, .ref f5253_9, .int (nI f5253_10), f5253_11, .int f5253_12, .int f5253_13]))] _ := va_P.cons hat5253 va_P.nil
  refine va_get (D := D) (ci := 5) (v := .ref f5253_0) (C := RX5) (T := TX5) (N := 14) hx hb hts iX5_read_5 hown hN.1 hP 0 rfl rfl 0 (by decide) (hts _ mX5_read_1) (fun _ h9 => h9) rfl dX5_read_4 ?_
  obtain ⟨hb5254, e5254, hat5254, hk5254⟩ := hT.o16 t5253_0.1
  obtain ⟨g5254, rfl⟩ := hk5254
  have hP : va_P D vwCl [(f5253_0, .inl (cs 1, 600, .inl g5254)), (w, .inr (5, [.ref f5253_0, .int (nI ((κ w).2.2.1)), .int (nI f5253_2), .int (nI f5253_3), .int f5253_4, .int (nI f5253_5), .int f5253_6, .int f5253_7, .int f5253_8, .ref f5253_9, .int (nI f5253_10), f5253_11, .int f5253_12, .int f5253_13]))] _ := va_P.cons hat5254 hP
  refine va_alen (v := 600) hx hb hN.1 hP 0 1 rfl rfl rfl dX5_read_7 ?_
  refine va_mmin hx hb (hml.trans hl.1.symm) hown (hts _ mX5_read_2) (hts _ mX5_read_3) (hts _ mX5_read_4) (hts _ mX5_read_5) (Nat.le_of_ble_eq_true rfl) (Nat.le_of_ble_eq_true rfl) (Nat.zero_le _) (Nat.zero_le _) dX5_read_8 ?_
  obtain ⟨m5255, hm5255, em5255⟩ := nI_min (a := n) (b := 600) (by omega) (by omega)
  refine tp_i (nI m5255) em5255 ?_
  refine va_mmax hx hb (hml.trans hl.1.symm) hown (hts _ mX5_read_6) (hts _ mX5_read_7) (hts _ mX5_read_4) (hts _ mX5_read_8) (Nat.le_of_ble_eq_true rfl) (Nat.le_of_ble_eq_true rfl) (Nat.zero_le _) (Nat.zero_le _) dX5_read_11 ?_
  obtain ⟨m5256, hm5256, em5256⟩ := nI_max (a := 0) (b := m5255) (by omega) (by omega)
  refine tp_i (nI m5256) em5256 ?_
  have hB : Bx B0 D _ [(f5253_0, .inl (cs 1, 600, .inl g5254)), (w, .inr (5, [.ref f5253_0, .int (nI ((κ w).2.2.1)), .int (nI f5253_2), .int (nI f5253_3), .int f5253_4, .int (nI f5253_5), .int f5253_6, .int f5253_7, .int f5253_8, .ref f5253_9, .int (nI f5253_10), f5253_11, .int f5253_12, .int f5253_13]))] [] _ _ := Bx.of (fun a => (κ a).1) hL hP (fa_c hb5254 (fa_c hb5253 fa_n)) (by simp only [List.map_cons, List.map_nil, t5253_0.1, hw.1]; decide)
  refine b_put (D := D) (ci := 5) (v := .int (nI m5256)) (ty := .int) (C := RX5) (T := TX5) (N := 14) hx hb hts iX5_read_5 tyX5 tyX5_ok nmX5 hown hN hB 1 rfl rfl 2 (by decide) (hts _ mX5_read_9) (fun _ h9 => h9) rfl (by decide +kernel) rfl rfl (Nat.le_of_ble_eq_true rfl) (.inl rfl) dX5_read_14 (fun H locs hB => ?_)
  have hB : Bx B0 D _ [(f5253_0, .inl (cs 1, 600, .inl g5254)), (w, .inr (5, [.ref f5253_0, .int (nI ((κ w).2.2.1)), .int (nI m5256), .int (nI f5253_3), .int f5253_4, .int (nI f5253_5), .int f5253_6, .int f5253_7, .int f5253_8, .ref f5253_9, .int (nI f5253_10), f5253_11, .int f5253_12, .int f5253_13]))] [w] _ _ := hB
  refine lv_aload_n hx hb dX5_read_17 rfl (lv_at hl 0 rfl) ?_
  refine lv_iconst (v := 0) hx hb dX5_read_18 (by decide) ?_
  refine tp_i (nI 0) rfl ?_
  refine b_put (D := D) (ci := 5) (v := .int (nI 0)) (ty := .int) (C := RX5) (T := TX5) (N := 14) hx hb hts iX5_read_5 tyX5 tyX5_ok nmX5 hown hN hB 1 rfl rfl 1 (by decide) (hts _ mX5_read_10) (fun _ h9 => h9) rfl (by decide +kernel) rfl rfl (Nat.le_of_ble_eq_true rfl) (.inr ⟨rfl, List.mem_of_getElem? (i := 0) rfl⟩) dX5_read_19 (fun H locs hB => ?_)
  have hB : Bx B0 D _ [(f5253_0, .inl (cs 1, 600, .inl g5254)), (w, .inr (5, [.ref f5253_0, .int (nI 0), .int (nI m5256), .int (nI f5253_3), .int f5253_4, .int (nI f5253_5), .int f5253_6, .int f5253_7, .int f5253_8, .ref f5253_9, .int (nI f5253_10), f5253_11, .int f5253_12, .int f5253_13]))] [w] _ _ := hB
  refine lv_aload_n hx hb dX5_read_22 rfl (lv_at hl 0 rfl) ?_
  refine lv_iconst (v := 0) hx hb dX5_read_23 (by decide) ?_
  refine tp_i (nI 0) rfl ?_
  refine b_put (D := D) (ci := 5) (v := .int (nI 0)) (ty := .int) (C := RX5) (T := TX5) (N := 14) hx hb hts iX5_read_5 tyX5 tyX5_ok nmX5 hown hN hB 1 rfl rfl 3 (by decide) (hts _ mX5_read_11) (fun _ h9 => h9) rfl (by decide +kernel) rfl rfl (Nat.le_of_ble_eq_true rfl) (.inr ⟨rfl, List.mem_of_getElem? (i := 0) rfl⟩) dX5_read_24 (fun H locs hB => ?_)
  have hB : Bx B0 D _ [(f5253_0, .inl (cs 1, 600, .inl g5254)), (w, .inr (5, [.ref f5253_0, .int (nI 0), .int (nI m5256), .int (nI 0), .int f5253_4, .int (nI f5253_5), .int f5253_6, .int f5253_7, .int f5253_8, .ref f5253_9, .int (nI f5253_10), f5253_11, .int f5253_12, .int f5253_13]))] [w] _ _ := hB
  refine lv_aload_n hx hb dX5_read_27 rfl (lv_at hl 0 rfl) ?_
  refine lv_iconst (v := 0) hx hb dX5_read_28 (by decide) ?_
  refine tp_i (nI 0) rfl ?_
  refine b_put (D := D) (ci := 5) (v := .int (nI 0)) (ty := .int) (C := RX5) (T := TX5) (N := 14) hx hb hts iX5_read_5 tyX5 tyX5_ok nmX5 hown hN hB 1 rfl rfl 10 (by decide) (hts _ mX5_read_12) (fun _ h9 => h9) rfl (by decide +kernel) rfl rfl (Nat.le_of_ble_eq_true rfl) (.inr ⟨rfl, List.mem_of_getElem? (i := 0) rfl⟩) dX5_read_29 (fun H locs hB => ?_)
  have hB : Bx B0 D _ [(f5253_0, .inl (cs 1, 600, .inl g5254)), (w, .inr (5, [.ref f5253_0, .int (nI 0), .int (nI m5256), .int (nI 0), .int f5253_4, .int (nI f5253_5), .int f5253_6, .int f5253_7, .int f5253_8, .ref f5253_9, .int (nI 0), f5253_11, .int f5253_12, .int f5253_13]))] [w] _ _ := hB
  refine lv_aload_n hx hb dX5_read_32 rfl (lv_at hl 0 rfl) ?_
  refine lv_iconst (v := (-1)) hx hb dX5_read_33 (by decide) ?_
  refine b_put (D := D) (ci := 5) (v := .int (-1)) (ty := .int) (C := RX5) (T := TX5) (N := 14) hx hb hts iX5_read_5 tyX5 tyX5_ok nmX5 hown hN hB 1 rfl rfl 13 (by decide) (hts _ mX5_read_13) (fun _ h9 => h9) rfl (by decide +kernel) rfl rfl (Nat.le_of_ble_eq_true rfl) (.inr ⟨rfl, List.mem_of_getElem? (i := 0) rfl⟩) dX5_read_34 (fun H locs hB => ?_)
  have hB : Bx B0 D _ [(f5253_0, .inl (cs 1, 600, .inl g5254)), (w, .inr (5, [.ref f5253_0, .int (nI 0), .int (nI m5256), .int (nI 0), .int f5253_4, .int (nI f5253_5), .int f5253_6, .int f5253_7, .int f5253_8, .ref f5253_9, .int (nI 0), f5253_11, .int f5253_12, .int (-1)]))] [w] _ _ := hB
  have hF : Fr B0 [10, 11] κ H0 _ := hF.close hB (fa_c (by simp [hw.2]) fa_n)
  have hT : WT B0 D cs T (kp κ w 0 0) _ := hT.closeK w 0 0 hB (by rw [hw.1]; decide) (by rw [hw.1]; decide) (List.mem_of_getElem? (i := 0) rfl) ⟨⟨1, _, rfl, kp_ok (ok_6 (k := ((κ w).1, (κ w).2.1, _, _)) hw.1 ⟨_, _, _, _, _, _, _, _, _, _, _, _, _, rfl, (by show 0 ≤ 600; omega), (by omega), (by omega), (by omega), (by omega), (t2kp t5253_0), (t2kp t5253_9), (kp_su c5253_11), (Or.inl rfl)⟩)⟩, trivial⟩
  have hL : OkL B0 _ := hB.2.2.2.2.2
  have hP : va_P D vwCl [(f5253_0, .inl (cs 1, 600, .inl g5254)), (w, .inr (5, [.ref f5253_0, .int (nI 0), .int (nI m5256), .int (nI 0), .int f5253_4, .int (nI f5253_5), .int f5253_6, .int f5253_7, .int f5253_8, .ref f5253_9, .int (nI 0), f5253_11, .int f5253_12, .int (-1)]))] _ := hB.1
  obtain ⟨κ5257, hκ5257⟩ : ∃ κ9 : KM, κ9 = (kp κ w 0 0) := ⟨_, rfl⟩
  have hxf5257 : KF κ κ5257 := by rw [hκ5257]; exact KF.kp
  rw [← hκ5257] at hT
  have hKF : KF κ κ5257 := hxf5257
  have hw := (KF.t2 hxf5257 hw (by decide))
  have hKW : ∀ a, (κ a).1 ≠ 0 → a ≠ w → κ5257 a = κ a := fun a _ h9 => by rw [hκ5257, kp_n h9]
  have hw1 : (κ5257 w).2.2.1 = 0 := by rw [hκ5257, kp_a]
  refine lv_aload_n hx hb dX5_read_37 rfl (lv_at hl 0 rfl) ?_
  refine cv_v (As := []) (rest := []) (b := w) ⟨hx, hb, hml, hown, hts⟩ (c_X5_step hT (w := w) hw) (cwV 0 hts gX5_read_X5_step rfl rfl rfl hdX5_step_v ⟨Nat.le_of_ble_eq_true rfl, Nat.le_of_ble_eq_true rfl⟩) hN hE hL (rcv6 hN hT hw.1) rfl rfl hl.1 (Nat.le_of_ble_eq_true rfl) dX5_read_38 (Nat.zero_le _) (Nat.zero_le _) (fun H1 locs hL hqr5258 => ?_)
  obtain ⟨hT1, hF1, hqr5258⟩ := hqr5258
  have hF := hF.tr ((hF1.kf hKF).mono (by simp))
  have hT := hT1
  have f5259 := hqr5258
  refine lv_aload_n hx hb dX5_read_41 rfl (lv_at hl 0 rfl) ?_
  refine va_ldcS hx hb hown (hN.s 1 rfl) dX5_read_42 ?_
  refine cv_i (As := [.ref (cs 101)]) (rest := []) (b := w) ⟨hx, hb, hml, hown, hts⟩ (c_X5_takeWord hT (w := w) hw (i := 1) (by decide)) (cwV 1 hts gX5_read_X5_takeWord rfl rfl rfl hdX5_takeWord_v ⟨Nat.le_of_ble_eq_true rfl, Nat.le_of_ble_eq_true rfl⟩) hN hE hL (rcv6 hN hT hw.1) rfl rfl hl.1 (Nat.le_of_ble_eq_true rfl) dX5_read_44 (Nat.zero_le _) (Nat.zero_le _) (fun r5260 H1 locs hL hqr5260 => ?_)
  obtain ⟨hT1, hF1, hqr5260⟩ := hqr5260
  have hF := hF.tr ((hF1.kf hKF).mono (by simp))
  have hT := hT1
  rcases hqr5260 with rfl | rfl
  · refine lv_if_eq (tgt := 60) hx hb dX5_read_47 (by decide) (fun _ => ?_) (fun c9 => absurd (by decide) c9)
    refine lv_null hx hb dX5_read_60 ?_
    refine W.know (fun hg => ?_)
    rw [hH0] at hg
    exact en_n hx hb hr hlocks (by first | exact Or.inl ⟨_, rfl⟩ | exact Or.inr ⟨_, rfl⟩) hL (Nat.zero_le _) (Nat.zero_le _) (Or.inl rfl) dX5_read_61 (⟨κ5257, (fun a h1 h2 _ => hKW a h1 h2), (fun a h1 => (hKF a h1).1), hw, hw1, hT, hF, hg.mono (by omega) (by omega), Or.inl rfl⟩)
  · refine lv_if_eq (tgt := 60) hx hb dX5_read_47 (by decide) (fun c9 => absurd c9 (by decide)) (fun _ => ?_)
    refine lv_aload_n hx hb dX5_read_50 rfl (lv_at hl 0 rfl) ?_
    refine lv_iconst (v := 1) hx hb dX5_read_51 (by decide) ?_
    refine lv_bipush (v := 8) hx hb dX5_read_52 (by decide) ?_
    refine cv_i (As := [.int 1, .int 8]) (rest := []) (b := w) ⟨hx, hb, hml, hown, hts⟩ (c_X5_takeNumber hT (w := w) hw (x := 1) (y := 8)) (cwV 2 hts gX5_read_X5_takeNumber rfl rfl rfl hdX5_takeNumber_v ⟨Nat.le_of_ble_eq_true rfl, Nat.le_of_ble_eq_true rfl⟩) hN hE hL (rcv6 hN hT hw.1) rfl rfl hl.1 (Nat.le_of_ble_eq_true rfl) dX5_read_54 (Nat.zero_le _) (Nat.zero_le _) (fun r5261 H1 locs hL hqr5261 => ?_)
    obtain ⟨hT1, hF1, hqr5261⟩ := hqr5261
    have hF := hF.tr ((hF1.kf hKF).mono (by simp))
    have hT := hT1
    rcases hqr5261 with rfl | ⟨rfl, v5262, l5263, g5264, f5265⟩
    · refine lv_if_ne (tgt := 62) hx hb dX5_read_57 (by decide) (fun c9 => absurd (by decide) c9) (fun _ => ?_)
      refine lv_null hx hb dX5_read_60 ?_
      refine W.know (fun hg => ?_)
      rw [hH0] at hg
      exact en_n hx hb hr hlocks (by first | exact Or.inl ⟨_, rfl⟩ | exact Or.inr ⟨_, rfl⟩) hL (Nat.zero_le _) (Nat.zero_le _) (Or.inl rfl) dX5_read_61 (⟨κ5257, (fun a h1 h2 _ => hKW a h1 h2), (fun a h1 => (hKF a h1).1), hw, hw1, hT, hF, hg.mono (by omega) (by omega), Or.inl rfl⟩)
    · obtain ⟨n5266, hn5266a, hn5266b, rfl⟩ := rng (x := v5262) (lo := 1) (hi := 8) (by decide) (by decide) l5263 g5264
      refine lv_if_ne (tgt := 62) hx hb dX5_read_57 (by decide) (fun _ => ?_) (fun c9 => absurd c9 (by decide))
      refine lv_aload_n hx hb dX5_read_62 rfl (lv_at hl 0 rfl) ?_
      have hb0 : B0 ≤ _ := hT.b0 hw (by decide)
      have hP : va_P D vwCl [] _ := hT.nil
      have hB : Bx B0 D _ [] [] _ _ := Bx.of (fun a => (κ5257 a).1) hL hP fa_n (by simp only [List.map_cons, List.map_nil, ]; decide)
      refine nw_o (ci := 6) (fs := [.int 0, .int 0, .int 0, .null, .null, .null, .null, .null]) (C := RX6) (T := TX6) (N := 8) hx hb hts iX5_read_6 tyX6 tyX6_ok hown (hts _ mX5_read_14) (hts _ mX5_read_15) (hts _ mX5_read_16) hN rfl dfl6 (show 0 + 1 ≤ 11 by omega) (show 0 + 8 ≤ 1332 by omega) dX5_read_63 (fun q5267 H heq5267 hzq5267 hoq5267 hatq5267 => ?_)
      have hgeq5267 : _ ≤ q5267 := Nat.le_trans hB.2.2.1 (Nat.le_of_eq heq5267.symm)
      have hbq5267 : B0 ≤ q5267 := Nat.le_trans hb0 hgeq5267
      have hfq5267 : (κ5257 q5267).1 = 0 := hT.fresh hgeq5267
      have hB := hB.nw heq5267 hzq5267 hoq5267 hatq5267 hb0
      have hB : Bx B0 D _ [(q5267, .inr (6, [.int 0, .int 0, .int 0, .null, .null, .null, .null, .null]))] [] _ _ := hB
      have hT0 := hT
      refine lv_dup hx hb dX5_read_66 rfl ?_
      refine lv_aload_n hx hb dX5_read_67 rfl (lv_at hl 0 rfl) ?_
      obtain ⟨hb5268, e5268, hat5268, hk5268⟩ := hT.o6 hw.1
      obtain ⟨f5268_0, f5268_2, f5268_3, f5268_4, f5268_5, f5268_6, f5268_7, f5268_8, f5268_9, f5268_10, f5268_11, f5268_12, f5268_13, rfl, c5268_1, c5268_2, c5268_3, c5268_5, c5268_10, t5268_0, t5268_9, c5268_11, c5268_p2⟩ := hk5268
      obtain rfl : f5268_7 = nI n5266 := Value.int.inj (f5265.eq hat5268 rfl (by decide) rfl)
      have hB : Bx B0 D _ [(q5267, .inr (6, [.int 0, .int 0, .int 0, .null, .null, .null, .null, .null])), (w, .inr (5, [.ref f5268_0, .int (nI ((κ5257 w).2.2.1)), .int (nI f5268_2), .int (nI f5268_3), .int f5268_4, .int (nI f5268_5), .int f5268_6, .int (nI n5266), .int f5268_8, .ref f5268_9, .int (nI f5268_10), f5268_11, .int f5268_12, .int f5268_13]))] [] _ _ := hB.more hat5268 hb5268 (fa_c (nw_ne hat5268 hgeq5267) fa_n) fa_n
      refine va_get (D := D) (ci := 5) (v := .int (nI n5266)) (C := RX5) (T := TX5) (N := 14) hx hb hts iX5_read_5 hown hN.1 hB.1 1 rfl rfl 7 (by decide) (hts _ mX5_read_17) (fun _ h9 => h9) rfl dX5_read_68 ?_
      have hwO := hw
      have hKFO := hKF
      have hT : WT B0 D cs T κ5257 _ := hT.close hB trivial
      have hF : Fr B0 [10, 11] κ H0 _ := hF.closeN hB fa_n
      have hL : OkL B0 _ := hB.2.2.2.2.2
      have hP : va_P D vwCl [(q5267, .inr (6, [.int 0, .int 0, .int 0, .null, .null, .null, .null, .null])), (w, .inr (5, [.ref f5268_0, .int (nI ((κ5257 w).2.2.1)), .int (nI f5268_2), .int (nI f5268_3), .int f5268_4, .int (nI f5268_5), .int f5268_6, .int (nI n5266), .int f5268_8, .ref f5268_9, .int (nI f5268_10), f5268_11, .int f5268_12, .int f5268_13]))] _ := hB.1
      refine ci_v (As := [.int (nI n5266)]) (rest := [.ref q5267, .ref w]) (b := q5267) ⟨hx, hb, hml, hown, hts⟩ (c_X6_init hT (w := q5267) hfq5267 hbq5267 (hP 0 _ rfl) (n := n5266) (by first | omega | decide | assumption)) (cwI 1 hts gX5_read_X6_init rfl rfl rfl (hts _ mX5_read_16) (hts _ mX5_read_95) (hts _ mX5_read_96) rfl hdX6_init_o ⟨Nat.le_of_ble_eq_true rfl, Nat.le_of_ble_eq_true rfl⟩) hN hE hL rfl rfl hl.1 (Nat.le_of_ble_eq_true rfl) dX5_read_71 (show 1 + 4 ≤ 11 by omega) (show (0 + 8) + 88 ≤ 1332 by omega) (fun H1 locs hL hqr5269 => ?_)
      obtain ⟨κr5269, hxr5269, hT1, hF1, hqr5269⟩ := hqr5269
      have hF := hF.tr ((hF1.kf hKF).mono (by simp))
      have hT := hT1
      have hKF := hKF.tr hxr5269.f
      have hw := (hxr5269.f.t2 hw (by decide))
      obtain ⟨hq5267, hqr5269⟩ := hqr5269
      have ekq5267 := hqr5269
      have ew9 : κr5269 w = _ := hxr5269 w (by rw [hwO.1]; decide)
      have hKW : ∀ a, (κ a).1 ≠ 0 → a ≠ w → κr5269 a = κ a := fun a h1 h2 => (hxr5269 a (by rw [hKW a h1 h2]; exact h1)).trans (hKW a h1 h2)
      have hw1 : (κr5269 w).2.2.1 = 0 := by rw [ew9]; exact hw1
      have hsf : (κ q5267).1 = 0 := by have h9 := hfq5267; by_cases h8 : (κ q5267).1 = 0; exact h8; rw [(hKFO _ h8).1] at h9; exact h9
      have hq0 : ¬ q5267 = 0 := by have h9 := hT0.lt hwO (by decide); omega
      have hqw : q5267 ≠ w := ne_c hq5267.1 hw.1 (by decide)
      obtain ⟨hb5270, e5270, hat5270, hk5270⟩ := hT.o6 hw.1
      obtain ⟨f5270_0, f5270_2, f5270_3, f5270_4, f5270_5, f5270_6, f5270_7, f5270_8, f5270_9, f5270_10, f5270_11, f5270_12, f5270_13, rfl, c5270_1, c5270_2, c5270_3, c5270_5, c5270_10, t5270_0, t5270_9, c5270_11, c5270_p2⟩ := hk5270
      have hP : va_P D vwCl [(w, .inr (5, [.ref f5270_0, .int (nI ((κr5269 w).2.2.1)), .int (nI f5270_2), .int (nI f5270_3), .int f5270_4, .int (nI f5270_5), .int f5270_6, .int f5270_7, .int f5270_8, .ref f5270_9, .int (nI f5270_10), f5270_11, .int f5270_12, .int f5270_13]))] _ := va_P.cons hat5270 va_P.nil
      have hB : Bx B0 D _ [(w, .inr (5, [.ref f5270_0, .int (nI ((κr5269 w).2.2.1)), .int (nI f5270_2), .int (nI f5270_3), .int f5270_4, .int (nI f5270_5), .int f5270_6, .int f5270_7, .int f5270_8, .ref f5270_9, .int (nI f5270_10), f5270_11, .int f5270_12, .int f5270_13]))] [] _ _ := Bx.of (fun a => (κr5269 a).1) hL hP (fa_c hb5270 fa_n) (by simp only [List.map_cons, List.map_nil, hw.1]; decide)
      refine b_put (D := D) (ci := 5) (v := .ref q5267) (ty := .object "OneBeat$Setup") (C := RX5) (T := TX5) (N := 14) hx hb hts iX5_read_5 tyX5 tyX5_ok nmX5 hown hN hB 0 rfl rfl 11 (by decide) (hts _ mX5_read_18) (fun _ h9 => h9) rfl (by decide +kernel) rfl rfl (Nat.le_of_ble_eq_true rfl) (.inl rfl) dX5_read_74 (fun H locs hB => ?_)
      have hB : Bx B0 D _ [(w, .inr (5, [.ref f5270_0, .int (nI ((κr5269 w).2.2.1)), .int (nI f5270_2), .int (nI f5270_3), .int f5270_4, .int (nI f5270_5), .int f5270_6, .int f5270_7, .int f5270_8, .ref f5270_9, .int (nI f5270_10), .ref q5267, .int f5270_12, .int f5270_13]))] [w] _ _ := hB
      have hqO := hq5267
      have hF : Fr B0 [10, 11] κ H0 _ := hF.closeN hB (fa_c (fun h9 => by rw [← (hKF _ h9).2, hw.2]; simp) fa_n)
      have hT : WT B0 D cs T (kp κr5269 w (κr5269 w).2.2.1 q5267) _ := hT.closeK w (κr5269 w).2.2.1 q5267 hB (by rw [hw.1]; decide) (by rw [hw.1]; decide) (List.mem_of_getElem? (i := 0) rfl) ⟨⟨0, _, rfl, kp_ok (ok_6 (k := ((κr5269 w).1, (κr5269 w).2.1, _, _)) hw.1 ⟨_, _, _, _, _, _, _, _, _, _, _, _, _, rfl, (by show (κr5269 w).2.2.1 ≤ 600; omega), (by omega), (by omega), (by omega), (by omega), (t2kp t5270_0), (t2kp t5270_9), (kp_su (Or.inr ⟨_, rfl, hq5267.1⟩)), (Or.inr rfl)⟩)⟩, trivial⟩
      have hL : OkL B0 _ := hB.2.2.2.2.2
      have hP : va_P D vwCl [(w, .inr (5, [.ref f5270_0, .int (nI ((κr5269 w).2.2.1)), .int (nI f5270_2), .int (nI f5270_3), .int f5270_4, .int (nI f5270_5), .int f5270_6, .int f5270_7, .int f5270_8, .ref f5270_9, .int (nI f5270_10), .ref q5267, .int f5270_12, .int f5270_13]))] _ := hB.1
      obtain ⟨κ5271, hκ5271⟩ : ∃ κ9 : KM, κ9 = (kp κr5269 w (κr5269 w).2.2.1 q5267) := ⟨_, rfl⟩
      have hxf5271 : KF κr5269 κ5271 := by rw [hκ5271]; exact KF.kp
      rw [← hκ5271] at hT
      have hKF := hKF.tr hxf5271
      have hw := (KF.t2 hxf5271 hw (by decide))
      have hKW : ∀ a, (κ a).1 ≠ 0 → a ≠ w → κ5271 a = κ a := fun a h1 h9 => by rw [hκ5271, kp_n h9]; exact hKW a h1 h9
      have hw1 : (κ5271 w).2.2.1 = 0 := by rw [hκ5271, kp_a]; exact hw1
      have ewq : (κ5271 w).2.2.2 = q5267 := by rw [hκ5271, kp_a]
      have hsf : (κ (κ5271 w).2.2.2).1 = 0 := by rw [ewq]; exact hsf
      have hs0 : ¬ (κ5271 w).2.2.2 = 0 := by rw [ewq]; exact hq0
      have hsu : T2 κ5271 (κ5271 w).2.2.2 7 11 := by rw [ewq]; exact hxf5271.t2 hqO (by decide)
      have hp1 : (κ5271 (κ5271 w).2.2.2).2.2.1 ≠ 1 := by rw [ewq, hκ5271, kp_n hqw, ekq5267]; decide
      refine lv_aload_n hx hb dX5_read_77 rfl (lv_at hl 0 rfl) ?_
      refine lv_bipush (v := 59) hx hb dX5_read_78 (by decide) ?_
      refine cv_i (As := [.int 59]) (rest := []) (b := w) ⟨hx, hb, hml, hown, hts⟩ (c_X5_takeMark hT (w := w) hw (x := 59)) (cwV 1 hts gX5_read_X5_takeMark rfl rfl rfl hdX5_takeMark_v ⟨Nat.le_of_ble_eq_true rfl, Nat.le_of_ble_eq_true rfl⟩) hN hE hL (rcv6 hN hT hw.1) rfl rfl hl.1 (Nat.le_of_ble_eq_true rfl) dX5_read_80 (show 5 + 0 ≤ 11 by omega) (show ((0 + 8) + 88) + 0 ≤ 1332 by omega) (fun r5272 H1 locs hL hqr5272 => ?_)
      obtain ⟨hT1, hF1, hqr5272⟩ := hqr5272
      have hF := hF.tr ((hF1.kf hKF).mono (by simp))
      have hT := hT1
      rcases hqr5272 with rfl | rfl
      · refine lv_if_ne (tgt := 88) hx hb dX5_read_83 (by decide) (fun c9 => absurd (by decide) c9) (fun _ => ?_)
        refine lv_null hx hb dX5_read_86 ?_
        refine W.know (fun hg => ?_)
        rw [hH0] at hg
        exact en_n hx hb hr hlocks (by first | exact Or.inl ⟨_, rfl⟩ | exact Or.inr ⟨_, rfl⟩) hL (show 5 ≤ 11 by omega) (show ((0 + 8) + 88) ≤ 1332 by omega) (Or.inl rfl) dX5_read_87 (⟨κ5271, (fun a h1 h2 _ => hKW a h1 h2), (fun a h1 => (hKF a h1).1), hw, hw1, hT, hF, hg.mono (by omega) (by omega), Or.inl rfl⟩)
      · refine lv_if_ne (tgt := 88) hx hb dX5_read_83 (by decide) (fun _ => ?_) (fun c9 => absurd c9 (by decide))
        refine lv_iconst (v := 0) hx hb dX5_read_88 (by decide) ?_
        refine lv_istore_n (lv' := [(2, .int 0), (0, .ref w), (1, .int (nI n))]) hx hb dX5_read_89 rfl hl (by decide) rfl (fun ls hl => ?_)
        refine W.know (fun hg => ?_)
        rw [hH0] at hg
        have hgg : GG9 κ5271 w H0 _ := Or.inl ⟨hp1, hg.mono (by omega) (by omega)⟩
        refine W.tight (k := 8) (n := 714) (by rw [hH0]; exact hgg.all) ?_
        refine lp_m (α := Nat × KM) (nL := 3) (fun a9 => 600 - a9.1) (fun a9 H9 l9 => (a9.1 ≤ 600) ∧ (∀ a, (κ a).1 ≠ 0 → a ≠ w → a9.2 a = κ a) ∧ (KF κ a9.2) ∧ (T2 a9.2 w 6 10) ∧ ((a9.2 w).2.2.1 = 0) ∧ ((κ (a9.2 w).2.2.2).1 = 0) ∧ (¬ (a9.2 w).2.2.2 = 0) ∧ (T2 a9.2 (a9.2 w).2.2.2 7 11) ∧ (GG9 a9.2 w H0 H9) ∧ (WT B0 D cs T a9.2 H9) ∧ (Fr B0 [10, 11] κ H0 H9) ∧ (OkL B0 l9)) (fun a9 => [(2, .int (nI a9.1)), (0, .ref w)]) ?_ (0, κ5271) _ _ _ ⟨(by show (0) ≤ 600; omega), hKW, hKF, hw, hw1, hsf, hs0, hsu, hgg, hT, hF, hL⟩ (lv_sub hl [0, 1] rfl)
        rintro ⟨k, κ9⟩ H locs ls ih5273 ⟨hk, hKW, hKF, hw, hw1, hsf, hs0, hsu, hgg, hT, hF, hL⟩ hl
        have hl : lv_has ls 3 [(2, .int (nI k)), (0, .ref w)] := hl
        have hk : k ≤ 600 := hk
        have hKW : ∀ a, (κ a).1 ≠ 0 → a ≠ w → κ9 a = κ a := hKW
        have hKF : KF κ κ9 := hKF
        have hw : T2 κ9 w 6 10 := hw
        have hw1 : (κ9 w).2.2.1 = 0 := hw1
        have hsf : (κ (κ9 w).2.2.2).1 = 0 := hsf
        have hs0 : ¬ (κ9 w).2.2.2 = 0 := hs0
        have hsu : T2 κ9 (κ9 w).2.2.2 7 11 := hsu
        have hgg : GG9 κ9 w H0 H := hgg
        have hT : WT B0 D cs T κ9 _ := hT
        refine lv_iload_n hx hb dX5_read_90 rfl (lv_at hl 0 rfl) ?_
        refine lv_sipush (v := 600) hx hb dX5_read_91 (by decide) ?_
        refine lv_icmp_ge (tgt := 128) hx hb dX5_read_94 (by decide) (fun c5274 => ?_) (fun c5274 => ?_)
        · have c5274 : 600 ≤ k := (nI_leI (a := 600) (b := k) (by omega) (by omega)).mp c5274
          refine lv_aload_n hx hb dX5_read_128 rfl (lv_at hl 1 rfl) ?_
          obtain ⟨hb5275, e5275, hat5275, hk5275⟩ := hT.o6 hw.1
          obtain ⟨f5275_0, f5275_2, f5275_3, f5275_4, f5275_5, f5275_6, f5275_7, f5275_8, f5275_9, f5275_10, f5275_11, f5275_12, f5275_13, rfl, c5275_1, c5275_2, c5275_3, c5275_5, c5275_10, t5275_0, t5275_9, c5275_11, c5275_p2⟩ := hk5275
          obtain rfl : f5275_11 = .ref (κ9 w).2.2.2 := c5275_p2.resolve_left hs0
          have hP : va_P D vwCl [(w, .inr (5, [.ref f5275_0, .int (nI ((κ9 w).2.2.1)), .int (nI f5275_2), .int (nI f5275_3), .int f5275_4, .int (nI f5275_5), .int f5275_6, .int f5275_7, .int f5275_8, .ref f5275_9, .int (nI f5275_10), .ref (κ9 w).2.2.2, .int f5275_12, .int f5275_13]))] _ := va_P.cons hat5275 va_P.nil
          refine va_get (D := D) (ci := 5) (v := .ref (κ9 w).2.2.2) (C := RX5) (T := TX5) (N := 14) hx hb hts iX5_read_5 hown hN.1 hP 0 rfl rfl 11 (by decide) (hts _ mX5_read_18) (fun _ h9 => h9) rfl dX5_read_129 ?_
          refine cv_v (As := []) (rest := []) (b := (κ9 w).2.2.2) ⟨hx, hb, hml, hown, hts⟩ (KC.grv (c_X6_fillIn hT (w := (κ9 w).2.2.2) hsu)) (cwV 0 hts gX5_read_X6_fillIn rfl rfl rfl hdX6_fillIn_v ⟨Nat.le_of_ble_eq_true rfl, Nat.le_of_ble_eq_true rfl⟩) hN hE hL (rcv7 hN hT hsu.1) rfl rfl hl.1 (Nat.le_of_ble_eq_true rfl) dX5_read_132 (show 8 + 0 ≤ 11 by omega) (show 714 + 0 ≤ 1332 by omega) (fun H1 locs hL hqr5276 => ?_)
          obtain ⟨hgr5276, hqr5276⟩ := hqr5276
          obtain ⟨hT1, hF1⟩ := hqr5276
          have hP : va_P D vwCl [(w, .inr (5, [.ref f5275_0, .int (nI ((κ9 w).2.2.1)), .int (nI f5275_2), .int (nI f5275_3), .int f5275_4, .int (nI f5275_5), .int f5275_6, .int f5275_7, .int f5275_8, .ref f5275_9, .int (nI f5275_10), .ref (κ9 w).2.2.2, .int f5275_12, .int f5275_13]))] _ := hF1.hP (hP.sub [0] rfl) (fa_c ⟨by rw [hw.1]; decide, by rw [hw.2]; first | decide | (simp; done) | (simp; omega)⟩ fa_n)
          have hF := hF.tr ((hF1.kf hKF).mono (by simp))
          have hT := hT1
          have hgg : GG9 κ9 w H0 _ := hgg.gr hgr5276
          refine lv_aload_n hx hb dX5_read_135 rfl (lv_at hl 1 rfl) ?_
          refine va_get (D := D) (ci := 5) (v := .ref (κ9 w).2.2.2) (C := RX5) (T := TX5) (N := 14) hx hb hts iX5_read_5 hown hN.1 hP 0 rfl rfl 11 (by decide) (hts _ mX5_read_18) (fun _ h9 => h9) rfl dX5_read_136 ?_
          refine W.know (fun hg => ?_)
          rw [hH0] at hg
          exact en_n hx hb hr hlocks (by first | exact Or.inl ⟨_, rfl⟩ | exact Or.inr ⟨_, rfl⟩) hL (show 8 ≤ 11 by omega) (show 714 ≤ 1332 by omega) (Or.inr ⟨_, rfl⟩) dX5_read_139 (⟨ro κ9, (fun a h1 h2 h3 => by rw [ro_n (by rw [hKW a h1 h2]; exact h3)]; exact hKW a h1 h2), (fun a h1 => (hKF a h1).1), (by rw [T2, ro_n (by rw [hw.2]; decide)]; exact hw), (by rw [ro_n (by rw [hw.2]; decide)]; exact hw1), hT.re, hF, hgg.all, Or.inr ⟨_, rfl, ro_t hsu⟩⟩)
        · have c5274 : ¬ 600 ≤ k := fun h9 => c5274 ((nI_leI (a := 600) (b := k) (by omega) (by omega)).mpr h9)
          refine lv_aload_n hx hb dX5_read_97 rfl (lv_at hl 1 rfl) ?_
          obtain ⟨hb5277, e5277, hat5277, hk5277⟩ := hT.o6 hw.1
          obtain ⟨f5277_0, f5277_2, f5277_3, f5277_4, f5277_5, f5277_6, f5277_7, f5277_8, f5277_9, f5277_10, f5277_11, f5277_12, f5277_13, rfl, c5277_1, c5277_2, c5277_3, c5277_5, c5277_10, t5277_0, t5277_9, c5277_11, c5277_p2⟩ := hk5277
          obtain rfl : f5277_11 = .ref (κ9 w).2.2.2 := c5277_p2.resolve_left hs0
          have hP : va_P D vwCl [(w, .inr (5, [.ref f5277_0, .int (nI ((κ9 w).2.2.1)), .int (nI f5277_2), .int (nI f5277_3), .int f5277_4, .int (nI f5277_5), .int f5277_6, .int f5277_7, .int f5277_8, .ref f5277_9, .int (nI f5277_10), .ref (κ9 w).2.2.2, .int f5277_12, .int f5277_13]))] _ := va_P.cons hat5277 va_P.nil
          refine va_get (D := D) (ci := 5) (v := .int f5277_4) (C := RX5) (T := TX5) (N := 14) hx hb hts iX5_read_5 hown hN.1 hP 0 rfl rfl 4 (by decide) (hts _ mX5_read_19) (fun _ h9 => h9) rfl dX5_read_98 ?_
          refine lv_if_eq (tgt := 128) hx hb dX5_read_101 (by decide) (fun c5278 => ?_) (fun c5278 => ?_)
          · refine lv_aload_n hx hb dX5_read_128 rfl (lv_at hl 1 rfl) ?_
            refine va_get (D := D) (ci := 5) (v := .ref (κ9 w).2.2.2) (C := RX5) (T := TX5) (N := 14) hx hb hts iX5_read_5 hown hN.1 hP 0 rfl rfl 11 (by decide) (hts _ mX5_read_18) (fun _ h9 => h9) rfl dX5_read_129 ?_
            refine cv_v (As := []) (rest := []) (b := (κ9 w).2.2.2) ⟨hx, hb, hml, hown, hts⟩ (KC.grv (c_X6_fillIn hT (w := (κ9 w).2.2.2) hsu)) (cwV 0 hts gX5_read_X6_fillIn rfl rfl rfl hdX6_fillIn_v ⟨Nat.le_of_ble_eq_true rfl, Nat.le_of_ble_eq_true rfl⟩) hN hE hL (rcv7 hN hT hsu.1) rfl rfl hl.1 (Nat.le_of_ble_eq_true rfl) dX5_read_132 (show 8 + 0 ≤ 11 by omega) (show 714 + 0 ≤ 1332 by omega) (fun H1 locs hL hqr5279 => ?_)
            obtain ⟨hgr5279, hqr5279⟩ := hqr5279
            obtain ⟨hT1, hF1⟩ := hqr5279
            have hP : va_P D vwCl [(w, .inr (5, [.ref f5277_0, .int (nI ((κ9 w).2.2.1)), .int (nI f5277_2), .int (nI f5277_3), .int f5277_4, .int (nI f5277_5), .int f5277_6, .int f5277_7, .int f5277_8, .ref f5277_9, .int (nI f5277_10), .ref (κ9 w).2.2.2, .int f5277_12, .int f5277_13]))] _ := hF1.hP (hP.sub [0] rfl) (fa_c ⟨by rw [hw.1]; decide, by rw [hw.2]; first | decide | (simp; done) | (simp; omega)⟩ fa_n)
            have hF := hF.tr ((hF1.kf hKF).mono (by simp))
            have hT := hT1
            have hgg : GG9 κ9 w H0 _ := hgg.gr hgr5279
            refine lv_aload_n hx hb dX5_read_135 rfl (lv_at hl 1 rfl) ?_
            refine va_get (D := D) (ci := 5) (v := .ref (κ9 w).2.2.2) (C := RX5) (T := TX5) (N := 14) hx hb hts iX5_read_5 hown hN.1 hP 0 rfl rfl 11 (by decide) (hts _ mX5_read_18) (fun _ h9 => h9) rfl dX5_read_136 ?_
            refine W.know (fun hg => ?_)
            rw [hH0] at hg
            exact en_n hx hb hr hlocks (by first | exact Or.inl ⟨_, rfl⟩ | exact Or.inr ⟨_, rfl⟩) hL (show 8 ≤ 11 by omega) (show 714 ≤ 1332 by omega) (Or.inr ⟨_, rfl⟩) dX5_read_139 (⟨ro κ9, (fun a h1 h2 h3 => by rw [ro_n (by rw [hKW a h1 h2]; exact h3)]; exact hKW a h1 h2), (fun a h1 => (hKF a h1).1), (by rw [T2, ro_n (by rw [hw.2]; decide)]; exact hw), (by rw [ro_n (by rw [hw.2]; decide)]; exact hw1), hT.re, hF, hgg.all, Or.inr ⟨_, rfl, ro_t hsu⟩⟩)
          · refine lv_aload_n hx hb dX5_read_104 rfl (lv_at hl 1 rfl) ?_
            refine cv_i (As := []) (rest := []) (b := w) ⟨hx, hb, hml, hown, hts⟩ (c_X5_readStatement hT (w := w) hw (by first | omega | decide | assumption) (by first | omega | decide | assumption)) (cwV 0 hts gX5_read_X5_readStatement rfl rfl rfl hdX5_readStatement_v ⟨Nat.le_of_ble_eq_true rfl, Nat.le_of_ble_eq_true rfl⟩) hN hE hL (rcv6 hN hT hw.1) rfl rfl hl.1 (Nat.le_of_ble_eq_true rfl) dX5_read_105 (show 8 + 3 ≤ 11 by omega) (show 714 + 618 ≤ 1332 by omega) (fun r5280 H1 locs hL hqr5280 => ?_)
            obtain ⟨κr5280, hxr5280, hT1, hF1, hsr5280, hqr5280⟩ := hqr5280
            have hF := hF.tr ((hF1.kf hKF).mono (by simp))
            have hT := hT1
            have hxfr5280 := KSF hxr5280 hsu hsr5280
            have ew9 : κr5280 w = κ9 w := hxr5280 w (by rw [hw.1]; decide) (ne_c hw.1 hsu.1 (by decide))
            have hKW : ∀ a, (κ a).1 ≠ 0 → a ≠ w → κr5280 a = κ a := fun a h1 h2 => (hxr5280 a (by rw [hKW a h1 h2]; exact h1) (fun e9 => h1 (by rw [e9]; exact hsf))).trans (hKW a h1 h2)
            obtain ⟨hgs, hqr5280⟩ := hqr5280
            have hgg : GG9 κr5280 w H0 _ := hgg.step ew9 hgs
            have hsf : (κ (κr5280 w).2.2.2).1 = 0 := by rw [ew9]; exact hsf
            have hs0 : ¬ (κr5280 w).2.2.2 = 0 := by rw [ew9]; exact hs0
            have hsu : T2 κr5280 (κr5280 w).2.2.2 7 11 := by rw [ew9]; exact hsr5280
            have hw1 : (κr5280 w).2.2.1 = 0 := by rw [ew9]; exact hw1
            have hKF := hKF.tr hxfr5280
            have hw := (KF.t2 hxfr5280 hw (by decide))
            rcases hqr5280 with rfl | rfl
            · refine lv_if_eq (tgt := 120) hx hb dX5_read_108 (by decide) (fun _ => ?_) (fun c9 => absurd (by decide) c9)
              refine lv_null hx hb dX5_read_120 ?_
              refine W.know (fun hg => ?_)
              rw [hH0] at hg
              exact en_n hx hb hr hlocks (by first | exact Or.inl ⟨_, rfl⟩ | exact Or.inr ⟨_, rfl⟩) hL (show 11 ≤ 11 by omega) (show (714 + 618) ≤ 1332 by omega) (Or.inl rfl) dX5_read_121 (⟨κr5280, (fun a h1 h2 _ => hKW a h1 h2), (fun a h1 => (hKF a h1).1), hw, hw1, hT, hF, hgg.all, Or.inl rfl⟩)
            · refine lv_if_eq (tgt := 120) hx hb dX5_read_108 (by decide) (fun c9 => absurd c9 (by decide)) (fun _ => ?_)
              refine lv_aload_n hx hb dX5_read_111 rfl (lv_at hl 1 rfl) ?_
              refine lv_bipush (v := 59) hx hb dX5_read_112 (by decide) ?_
              refine cv_i (As := [.int 59]) (rest := []) (b := w) ⟨hx, hb, hml, hown, hts⟩ (KC.gri (c_X5_takeMark hT (w := w) hw (x := 59))) (cwV 1 hts gX5_read_X5_takeMark rfl rfl rfl hdX5_takeMark_v ⟨Nat.le_of_ble_eq_true rfl, Nat.le_of_ble_eq_true rfl⟩) hN hE hL (rcv6 hN hT hw.1) rfl rfl hl.1 (Nat.le_of_ble_eq_true rfl) dX5_read_114 (show 11 + 0 ≤ 11 by omega) (show (714 + 618) + 0 ≤ 1332 by omega) (fun r5281 H1 locs hL hqr5281 => ?_)
              obtain ⟨hgr5281, hqr5281⟩ := hqr5281
              obtain ⟨hT1, hF1, hqr5281⟩ := hqr5281
              have hF := hF.tr ((hF1.kf hKF).mono (by simp))
              have hT := hT1
              have hgg : GG9 κr5280 w H0 _ := hgg.gr hgr5281
              rcases hqr5281 with rfl | rfl
              · refine lv_if_ne (tgt := 122) hx hb dX5_read_117 (by decide) (fun c9 => absurd (by decide) c9) (fun _ => ?_)
                refine lv_null hx hb dX5_read_120 ?_
                refine W.know (fun hg => ?_)
                rw [hH0] at hg
                exact en_n hx hb hr hlocks (by first | exact Or.inl ⟨_, rfl⟩ | exact Or.inr ⟨_, rfl⟩) hL (show 11 ≤ 11 by omega) (show (714 + 618) ≤ 1332 by omega) (Or.inl rfl) dX5_read_121 (⟨κr5280, (fun a h1 h2 _ => hKW a h1 h2), (fun a h1 => (hKF a h1).1), hw, hw1, hT, hF, hgg.all, Or.inl rfl⟩)
              · refine lv_if_ne (tgt := 122) hx hb dX5_read_117 (by decide) (fun _ => ?_) (fun c9 => absurd c9 (by decide))
                refine lv_iinc (v := (nI (k + 1))) (lv' := [(2, .int (nI (k + 1))), (0, .ref w)]) hx hb dX5_read_122 hl (k := 0) rfl (nI_add _ 1) (by decide) rfl (fun ls hl => ?_)
                refine lv_goto (tgt := 90) hx hb dX5_read_125 (by decide) ?_
                refine W.tight (k := 8) (n := 714) (by rw [hH0]; exact hgg.all) ?_
                exact ih5273 ((k + 1), κr5280) _ _ _ (by show 600 - ((k + 1)) < 600 - k; omega) ⟨(by show ((k + 1)) ≤ 600; omega), hKW, hKF, hw, hw1, hsf, hs0, hsu, hgg, hT, hF, hL⟩ (lv_sub hl [0, 1] rfl)
