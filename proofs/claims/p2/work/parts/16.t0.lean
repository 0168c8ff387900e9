theorem mJ7_copyOf_59c91_7 : (.arrayClass .int : Cond) ∈ wsJ7_copyOf_59c91 := List.mem_of_getElem? (i := 7) (by decide +kernel)
theorem mJ7_copyOf_59c91_8 : (.methodLink RJ7 304 Lib.Math.min.name : Cond) ∈ wsJ7_copyOf_59c91 := List.mem_of_getElem? (i := 8) (by decide +kernel)
theorem mJ7_copyOf_59c91_9 : (.static Lib.Math.min.name : Cond) ∈ wsJ7_copyOf_59c91 := List.mem_of_getElem? (i := 9) (by decide +kernel)
theorem mJ7_copyOf_59c91_10 : (.initialized "java/lang/Math" : Cond) ∈ wsJ7_copyOf_59c91 := List.mem_of_getElem? (i := 10) (by decide +kernel)
theorem mJ7_copyOf_59c91_11 : (.code Lib.Math.min.name Lib.Math.min.code 2 (some .int) : Cond) ∈ wsJ7_copyOf_59c91 := List.mem_of_getElem? (i := 11) (by decide +kernel)
theorem mJ7_copyOf_59c91_12 : (.methodLink RJ7 150 arraycopyName : Cond) ∈ wsJ7_copyOf_59c91 := List.mem_of_getElem? (i := 12) (by decide +kernel)
theorem mJ7_copyOf_59c91_13 : (.native arraycopyName : Cond) ∈ wsJ7_copyOf_59c91 := List.mem_of_getElem? (i := 13) (by decide +kernel)
theorem mJ7_copyOf_59c91_14 : (.static arraycopyName : Cond) ∈ wsJ7_copyOf_59c91 := List.mem_of_getElem? (i := 14) (by decide +kernel)
theorem mJ7_copyOf_59c91_15 : (.initialized "java/lang/System" : Cond) ∈ wsJ7_copyOf_59c91 := List.mem_of_getElem? (i := 15) (by decide +kernel)
theorem mJ7_copyOf_59c91_1 : (.methodLink RJ7 316 ⟨"[I", "clone", "()Ljava/lang/Object;"⟩ : Cond) ∈ wsJ7_copyOf_59c91 := List.mem_of_getElem? (i := 1) (by decide +kernel)
theorem mJ7_copyOf_59c91_2 : (.sameMethod "[I" "java/lang/Object" "clone" "()Ljava/lang/Object;" : Cond) ∈ wsJ7_copyOf_59c91 := List.mem_of_getElem? (i := 2) (by decide +kernel)
theorem mJ7_copyOf_59c91_3 : (.native ⟨"java/lang/Object", "clone", "()Ljava/lang/Object;"⟩ : Cond) ∈ wsJ7_copyOf_59c91 := List.mem_of_getElem? (i := 3) (by decide +kernel)
theorem mJ7_copyOf_59c91_4 : (.instanceMethod ⟨"java/lang/Object", "clone", "()Ljava/lang/Object;"⟩ : Cond) ∈ wsJ7_copyOf_59c91 := List.mem_of_getElem? (i := 4) (by decide +kernel)
theorem mJ7_copyOf_59c91_5 : (.selects "[I" ⟨"[I", "clone", "()Ljava/lang/Object;"⟩ ⟨"java/lang/Object", "clone", "()Ljava/lang/Object;"⟩ : Cond) ∈ wsJ7_copyOf_59c91 := List.mem_of_getElem? (i := 5) (by decide +kernel)
theorem mJ7_copyOf_59c91_6 : (.classLink RJ7 317 "[I" : Cond) ∈ wsJ7_copyOf_59c91 := List.mem_of_getElem? (i := 6) (by decide +kernel)
set_option maxHeartbeats 4000000 in
set_option maxRecDepth 100000 in
theorem c_J7_copyOf_59c91 {l : Launch} {D : va_G} {cs : Nat → ClassId} {B0 : Nat} {H0 : Heap} {v n : Nat} {g : Nat → Int32} (hvb : B0 ≤ v) (hva : va_at D vwCl (v, .inl (cs 0, 600, .inl g)) H0) (hn : n ≤ 600) : KC l yJ7_copyOf_59c91 wsJ7_copyOf_59c91 1 60 1 600 D cs B0 H0 [.ref v, .int (nI n)] (Qr (fun r H => r = H0.size ∧ H.size = r + 1 ∧ (∀ x, x < r → H[x]? = H0[x]?) ∧ ∃ f, va_at D vwCl (r, .inl (cs 0, n, .inl f)) H)) := by
  refine KC.of cJ7_copyOf_59c91 3 (some (.array .int)) (by decide) rfl (Nat.le_of_ble_eq_true rfl) ?_
  intro p e s m below meth c ls hx hb hr hml hown hts hlocks hin hN hE hH0 hl
  have hown : s.vm.findClass RJ7 = some m.cls := hown
  have hl : lv_has ls 3 [(0, .ref v), (1, .int (nI n))] := hl
  have hL : OkL B0 [] := OkL.nil
  have hP : va_P D vwCl [(v, .inl (cs 0, 600, .inl g))] _ := va_P.cons hva va_P.nil
  have hb0 : B0 ≤ H0.size := Nat.le_trans hvb (Nat.le_of_lt hva.lt)
  refine lv_iload_n hx hb dJ7_copyOf_59c91_0 rfl (lv_at hl 1 rfl) ?_
  refine lv_aload_n hx hb dJ7_copyOf_59c91_1 rfl (lv_at hl 0 rfl) ?_
  refine va_alen (v := 600) hx hb hN.1 hP 0 0 rfl rfl rfl dJ7_copyOf_59c91_2 ?_
  refine lv_icmp_ne (tgt := 14) hx hb dJ7_copyOf_59c91_3 (by decide) (fun c4868 => ?_) (fun c4868 => ?_)
  · have c4868 : ¬ n = 600 := fun h9 => c4868 ((nI_eq (a := n) (b := 600) (by omega) (by omega)).mpr h9)
    refine lv_iload_n hx hb dJ7_copyOf_59c91_14 rfl (lv_at hl 1 rfl) ?_
    have hB : Bx B0 D _ [(v, .inl (cs 0, 600, .inl g))] [] _ _ := Bx.of (fun a => a) hL hP (fa_c hvb fa_n) (by simp)
    refine nw_a (atype := .int) (ty := .int) (N' := n) (a0 := (n, .inl (fun _ => 0))) 0 hN rfl hx hb (hts _ mJ7_copyOf_59c91_7) rfl (fun _ => rfl) (nI_pos (n := n) (by omega)) (nI_clamp (n := n) (by omega)) (show n * _ ≤ _ by simp only [componentBytes]; omega) (show 0 + 1 ≤ 1 by omega) (show 0 + n ≤ 600 by omega) dJ7_copyOf_59c91_15 (fun q4869 H heq4869 hzq4869 hoq4869 hatq4869 => ?_)
    have hB := hB.nwm heq4869 hzq4869 hoq4869 hatq4869 hb0
    have hB : Bx B0 D _ [(v, .inl (cs 0, 600, .inl g)), (q4869, .inl (cs 0, n, .inl (fun _ => 0)))] [q4869] _ _ := hB
    refine lv_astore_n (lv' := [(2, .ref q4869), (0, .ref v), (1, .int (nI n))]) hx hb dJ7_copyOf_59c91_17 rfl hl (by decide) rfl (fun ls hl => ?_)
    refine lv_aload_n hx hb dJ7_copyOf_59c91_18 rfl (lv_at hl 1 rfl) ?_
    refine lv_iconst (v := 0) hx hb dJ7_copyOf_59c91_19 (by decide) ?_
    refine lv_aload_n hx hb dJ7_copyOf_59c91_20 rfl (lv_at hl 0 rfl) ?_
    refine lv_iconst (v := 0) hx hb dJ7_copyOf_59c91_21 (by decide) ?_
    refine lv_aload_n hx hb dJ7_copyOf_59c91_22 rfl (lv_at hl 1 rfl) ?_
    refine va_alen (v := 600) hx hb hN.1 hB.1 0 0 rfl rfl rfl dJ7_copyOf_59c91_23 ?_
    refine lv_iload_n hx hb dJ7_copyOf_59c91_24 rfl (lv_at hl 2 rfl) ?_
    refine va_mmin hx hb (hml.trans hl.1.symm) hown (hts _ mJ7_copyOf_59c91_8) (hts _ mJ7_copyOf_59c91_9) (hts _ mJ7_copyOf_59c91_10) (hts _ mJ7_copyOf_59c91_11) (Nat.le_of_ble_eq_true rfl) (Nat.le_of_ble_eq_true rfl) (show 1 ≤ 1 by omega) (show (0 + n) ≤ 600 by omega) dJ7_copyOf_59c91_25 ?_
    obtain ⟨m4870, hm4870, em4870⟩ := nI_min (a := 600) (b := n) (by omega) (by omega)
    refine tp_i (nI m4870) em4870 ?_
    refine b_cpy hx hb (hml.trans hl.1.symm) hown (hts _ mJ7_copyOf_59c91_12) (hts _ mJ7_copyOf_59c91_13) (hts _ mJ7_copyOf_59c91_14) (hts _ mJ7_copyOf_59c91_15) hN hB 0 1 rfl rfl (nI_pos (n := 0) (by omega)) (nI_pos (n := 0) (by omega)) (nI_pos (n := m4870) (by omega)) (by rw [show (0 : Int32).toNatClampNeg = 0 from nI_clamp (n := 0) (by omega), show ((nI m4870) : Int32).toNatClampNeg = m4870 from nI_clamp (n := m4870) (by omega)]; omega) (by rw [show (0 : Int32).toNatClampNeg = 0 from nI_clamp (n := 0) (by omega), show ((nI m4870) : Int32).toNatClampNeg = m4870 from nI_clamp (n := m4870) (by omega)]; omega) (.inr ⟨rfl, List.mem_of_getElem? (i := 0) rfl⟩) (Nat.le_of_ble_eq_true rfl) (Nat.le_of_ble_eq_true rfl) dJ7_copyOf_59c91_28 (fun H locs hB => ?_)
    generalize va_cpy _ _ _ _ _ = g4871 at hB
    have hB : Bx B0 D _ [(v, .inl (cs 0, 600, .inl g)), (q4869, .inl (cs 0, n, .inl g4871))] [q4869] _ _ := hB
    refine lv_aload_n hx hb dJ7_copyOf_59c91_31 rfl (lv_at hl 0 rfl) ?_
    have hL : OkL B0 _ := hB.2.2.2.2.2
    refine W.know (fun hg => ?_)
    rw [hH0] at hg
    exact en_r hx hb hr hlocks (by first | exact Or.inl ⟨_, rfl⟩ | exact Or.inr ⟨_, rfl⟩) hL (show 1 ≤ 1 by omega) (show (0 + n) ≤ 600 by omega) dJ7_copyOf_59c91_32 (⟨heq4869, (by have h1 := hg.2.1; have h2 := (hB.1 1 _ rfl).lt; have h2 : q4869 < _ := h2; omega), (fun x hx9 => hB.2.2.2.1 x (by omega) (by simp; omega)), _, hB.1 1 _ rfl⟩)
  · have c4868 : n = 600 := (nI_eq (a := n) (b := 600) (by omega) (by omega)).mp c4868
    refine lv_aload_n hx hb dJ7_copyOf_59c91_6 rfl (lv_at hl 0 rfl) ?_
    refine nw_cl hx hb (hml.trans hl.1.symm) hown (hts _ mJ7_copyOf_59c91_1) (hts _ mJ7_copyOf_59c91_2) (hts _ mJ7_copyOf_59c91_3) (hts _ mJ7_copyOf_59c91_4) (hts _ mJ7_copyOf_59c91_5) hN (hP 0 _ rfl) (Nat.le_of_ble_eq_true rfl) (Nat.le_of_ble_eq_true rfl) (show 0 + 1 ≤ 1 by omega) (show 0 + 600 ≤ 600 by omega) dJ7_copyOf_59c91_7 (fun q4872 H heq4872 hzq4872 hoq4872 hatq4872 => ?_)
    refine nw_ca hx hb hown (hts _ mJ7_copyOf_59c91_6) hN hatq4872 dJ7_copyOf_59c91_10 ?_
    refine W.know (fun hg => ?_)
    rw [hH0] at hg
    obtain rfl : n = 600 := c4868
    exact en_r hx hb hr hlocks (by first | exact Or.inl ⟨_, rfl⟩ | exact Or.inr ⟨_, rfl⟩) hL (show 1 ≤ 1 by omega) (show (0 + 600) ≤ 600 by omega) dJ7_copyOf_59c91_13 (⟨heq4872, hzq4872, hoq4872, _, hatq4872⟩)
theorem mX0_init_1 : (.methodLink RX0 1 objectInit : Cond) ∈ wsX0_init := List.mem_of_getElem? (i := 1) (by decide +kernel)
theorem mX0_init_2 : (.instanceMethod objectInit : Cond) ∈ wsX0_init := List.mem_of_getElem? (i := 2) (by decide +kernel)
theorem mX0_init_3 : (.code objectInit ⟨#[0xb1]⟩ 1 none : Cond) ∈ wsX0_init := List.mem_of_getElem? (i := 3) (by decide +kernel)
theorem mX0_init_4 : (.arrayClass .int : Cond) ∈ wsX0_init := List.mem_of_getElem? (i := 4) (by decide +kernel)
theorem mX0_init_5 : (.fieldLink RX0 9 "OneBeat$Formula" "stack" "[I" : Cond) ∈ wsX0_init := List.mem_of_getElem? (i := 5) (by decide +kernel)
theorem iX0_init_0 : ∀ w ∈ wsX00, w ∈ wsX0_init := fun w h => List.mem_of_mem_drop (List.mem_of_mem_take ((show wsX00 = (wsX0_init.drop 25).take 2 by decide +kernel) ▸ h))
theorem hdJ7_copyOf_59c91_o : yJ7_copyOf_59c91.cls ≠ "java/lang/invoke/MethodHandle" ∧ yJ7_copyOf_59c91.cls ≠ "java/lang/invoke/VarHandle" ∧ (parseMethodDescriptor yJ7_copyOf_59c91.desc).map (fun d => d.parameters.length) = some 2 := by decide +kernel
theorem mX0_init_6 : (.fieldLink RX0 19 "OneBeat$Formula" "codes" "[I" : Cond) ∈ wsX0_init := List.mem_of_getElem? (i := 6) (by decide +kernel)
set_option maxHeartbeats 4000000 in
set_option maxRecDepth 100000 in
theorem c_X0_init {l : Launch} {D : va_G} {cs : Nat → ClassId} {B0 T : Nat} {κ : KM} {H0 : Heap} (hT : WT B0 D cs T κ H0) {w : Nat} (hfw : (κ w).1 = 0) (hwb : B0 ≤ w) (hwa : va_at D vwCl (w, .inr (0, [.null, .null])) H0) {v n : Nat} (hv : T2 κ v 17 10) (hn : n ≤ 600) : KC l yX0_init wsX0_init 2 82 2 616 D cs B0 H0 [.ref w, .ref v, .int (nI n)] (Qv (fun H => ∃ κ1, KX κ κ1 ∧ WT B0 D cs T κ1 H ∧ Fr B0 [] κ H0 H ∧ T2 κ1 w 1 15)) := by
  refine KC.of cX0_init 3 none (by decide) rfl (Nat.le_of_ble_eq_true rfl) ?_
  intro p e s m below meth c ls hx hb hr hml hown hts hlocks hin hN hE hH0 hl
  have hown : s.vm.findClass RX0 = some m.cls := hown
  have hl : lv_has ls 3 [(0, .ref w), (1, .ref v), (2, .int (nI n))] := hl
  have hL : OkL B0 [] := OkL.nil
  have hF : Fr B0 [] κ H0 H0 := Fr.rf
  have hP : va_P D vwCl [(w, .inr (0, [.null, .null]))] _ := va_P.cons hwa va_P.nil
  have hb0 : B0 ≤ H0.size := Nat.le_trans hwb (Nat.le_of_lt hwa.lt)
  refine lv_aload_n hx hb dX0_init_0 rfl (lv_at hl 0 rfl) ?_
  refine W.objInit hx hb hown (hts _ mX0_init_1) (hts _ mX0_init_2) (hts _ mX0_init_3) rfl (by rw [hml]; exact hl.1) rfl dX0_init_1 (Nat.le_of_ble_eq_true rfl) (Nat.le_of_ble_eq_true rfl) ?_
  refine W.eq (g2 := F0 m 4 ls []) rfl ?_
  refine lv_aload_n hx hb dX0_init_4 rfl (lv_at hl 0 rfl) ?_
  refine lv_bipush (v := 16) hx hb dX0_init_5 (by decide) ?_
  have hB : Bx B0 D _ [(w, .inr (0, [.null, .null]))] [] _ _ := Bx.of (fun a => (κ a).1) hL hP (fa_c hwb fa_n) (by simp only [List.map_cons, List.map_nil, hfw]; decide)
  refine nw_a (atype := .int) (ty := .int) (N' := 16) (a0 := (16, .inl (fun _ => 0))) 0 hN rfl hx hb (hts _ mX0_init_4) rfl (fun _ => rfl) (nI_pos (n := 16) (by omega)) (nI_clamp (n := 16) (by omega)) (show 16 * _ ≤ _ by simp only [componentBytes]; omega) (show 0 + 1 ≤ 2 by omega) (show 0 + 16 ≤ 616 by omega) dX0_init_7 (fun q4873 H heq4873 hzq4873 hoq4873 hatq4873 => ?_)
  have hgeq4873 : _ ≤ q4873 := Nat.le_trans hB.2.2.1 (Nat.le_of_eq heq4873.symm)
  have hbq4873 : B0 ≤ q4873 := Nat.le_trans hb0 hgeq4873
  have hfq4873 : (κ q4873).1 = 0 := hT.fresh hgeq4873
  have hB := hB.nwm heq4873 hzq4873 hoq4873 hatq4873 hb0
  have hB : Bx B0 D _ [(w, .inr (0, [.null, .null])), (q4873, .inl (cs 0, 16, .inl (fun _ => 0)))] [q4873] _ _ := hB
  refine b_putF (D := D) (ci := 0) (v := .ref q4873) (ty := .array .int) (C := RX0) (T := TX0) (N := 2) hx hb hts iX0_init_0 tyX0 tyX0_ok nmX0 hown hN hB 0 rfl rfl 1 (by decide) (hts _ mX0_init_5) (fun _ h9 => h9) rfl hin rfl (by decide +kernel) rfl rfl (Nat.le_of_ble_eq_true rfl) (.inl rfl) dX0_init_9 (fun H locs hB => ?_)
  have hB : Bx B0 D _ [(w, .inr (0, [.null, .ref q4873])), (q4873, .inl (cs 0, 16, .inl (fun _ => 0)))] [w, q4873] _ _ := hB
  refine lv_aload_n hx hb dX0_init_12 rfl (lv_at hl 0 rfl) ?_
  refine lv_aload_n hx hb dX0_init_13 rfl (lv_at hl 1 rfl) ?_
  refine lv_iload_n hx hb dX0_init_14 rfl (lv_at hl 2 rfl) ?_
  refine lv_if_ge (tgt := 22) hx hb dX0_init_15 (by decide) (fun c4874 => ?_) (fun c4874 => ?_)
  · have c4874 : 0 ≤ n := (nI_leI (a := 0) (b := n) (by omega) (by omega)).mp c4874
    refine lv_iload_n hx hb dX0_init_22 rfl (lv_at hl 2 rfl) ?_
    obtain ⟨hb4875, e4875, hat4875, hk4875⟩ := hT.o17 hv.1
    obtain ⟨g4875, rfl⟩ := hk4875
    have hB : Bx B0 D _ [(w, .inr (0, [.null, .ref q4873])), (q4873, .inl (cs 0, 16, .inl (fun _ => 0))), (v, .inl (cs 0, 600, .inl g4875))] [w, q4873] _ _ := hB.more hat4875 hb4875 (fa_c (ne_c hfw hv.1 (by decide))  (fa_c (nw_ne hat4875 hgeq4873) fa_n)) (fa_c (ne_c hfw hv.1 (by decide))  (fa_c (nw_ne hat4875 hgeq4873) fa_n))
    have hL : OkL B0 _ := hB.2.2.2.2.2
    refine cs_r (As := [.ref v, .int (nI n)]) (rest := [.ref w]) ⟨hx, hb, hml, hown, hts⟩ (c_J7_copyOf_59c91 (v := v) (n := n) hb4875 (hB.1 2 _ rfl) (by omega)) (va_cwS 2 hts gX0_init_J7_copyOf_59c91 rfl rfl rfl hdJ7_copyOf_59c91_o ⟨Nat.le_of_ble_eq_true rfl, Nat.le_of_ble_eq_true rfl⟩) hN hE hL rfl rfl hl.1 (Nat.le_of_ble_eq_true rfl) dX0_init_23 (show 1 + 1 ≤ 2 by omega) (show (0 + 16) + 600 ≤ 616 by omega) (fun q4876 H1 locs hL hqq4876 => ?_)
    obtain ⟨heq4876, hzq4876, hoq4876, gq4876, hatq4876⟩ := hqq4876
    have hB := hB.lc hL
    have hgeq4876 : _ ≤ q4876 := Nat.le_trans hB.2.2.1 (Nat.le_of_eq heq4876.symm)
    have hbq4876 : B0 ≤ q4876 := Nat.le_trans hb0 hgeq4876
    have hfq4876 : (κ q4876).1 = 0 := hT.fresh hgeq4876
    have hB := hB.nwm heq4876 hzq4876 hoq4876 hatq4876 hb0
    have hB : Bx B0 D _ [(w, .inr (0, [.null, .ref q4873])), (q4873, .inl (cs 0, 16, .inl (fun _ => 0))), (v, .inl (cs 0, 600, .inl g4875)), (q4876, .inl (cs 0, n, .inl gq4876))] [q4876, w, q4873] _ _ := hB
    refine b_putF (D := D) (ci := 0) (v := .ref q4876) (ty := .array .int) (C := RX0) (T := TX0) (N := 2) hx hb hts iX0_init_0 tyX0 tyX0_ok nmX0 hown hN hB 0 rfl rfl 0 (by decide) (hts _ mX0_init_6) (fun _ h9 => h9) rfl hin rfl (by decide +kernel) rfl rfl (Nat.le_of_ble_eq_true rfl) (.inr ⟨rfl, List.mem_of_getElem? (i := 1) rfl⟩) dX0_init_26 (fun H locs hB => ?_)
    have hB : Bx B0 D _ [(w, .inr (0, [.ref q4876, .ref q4873])), (q4873, .inl (cs 0, 16, .inl (fun _ => 0))), (v, .inl (cs 0, 600, .inl g4875)), (q4876, .inl (cs 0, n, .inl gq4876))] [q4876, w, q4873] _ _ := hB
    obtain ⟨κ4877, hκ4877⟩ : ∃ κ9 : KM, κ9 = (ku (ku (ku κ w (1, 15, 0, 0)) q4873 (22, 16, 0, 0)) q4876 (21, 15, 0, 0)) := ⟨_, rfl⟩
    have hx4877 : KX κ κ4877 := by rw [hκ4877]; exact (((KX.ku hfw).tr (KX.ku (by rw [ku_n (fun e9 => absurd (hB.2.1.1 1 0 _ _ rfl rfl e9) (by decide))]; exact hfq4873))).tr (KX.ku (by rw [ku_n (fun e9 => absurd (hB.2.1.1 3 1 _ _ rfl rfl e9) (by decide)), ku_n (fun e9 => absurd (hB.2.1.1 3 0 _ _ rfl rfl e9) (by decide))]; exact hfq4876)))
    have ew : κ4877 w = (1, 15, 0, 0) := by rw [hκ4877, ku_n (fun e9 => absurd (hB.2.1.1 0 3 _ _ rfl rfl e9) (by decide)), ku_n (fun e9 => absurd (hB.2.1.1 0 1 _ _ rfl rfl e9) (by decide)), ku_a]
    have hw : T2 κ4877 w 1 15 := ⟨by rw [ew], by rw [ew]⟩
    have eq4873 : κ4877 q4873 = (22, 16, 0, 0) := by rw [hκ4877, ku_n (fun e9 => absurd (hB.2.1.1 1 3 _ _ rfl rfl e9) (by decide)), ku_a]
    have hq4873 : T2 κ4877 q4873 22 16 := ⟨by rw [eq4873], by rw [eq4873]⟩
    have eq4876 : κ4877 q4876 = (21, 15, 0, 0) := by rw [hκ4877, ku_a]
    have hq4876 : T2 κ4877 q4876 21 15 := ⟨by rw [eq4876], by rw [eq4876]⟩
    have hx9 := hx4877
    have hT : WT B0 D cs T κ4877 _ := hT.closeN hB hx4877 (fun a9 h9 => by rw [hκ4877, ku_n (fun e9 => h9 (by rw [e9]; exact List.mem_of_getElem? (i := 0) rfl)), ku_n (fun e9 => h9 (by rw [e9]; exact List.mem_of_getElem? (i := 2) rfl)), ku_n (fun e9 => h9 (by rw [e9]; exact List.mem_of_getElem? (i := 1) rfl))]) ⟨⟨3, _, rfl, ok_21 hq4876.1 ⟨_, _, rfl, (by omega)⟩⟩, ⟨⟨0, _, rfl, ok_1 hw.1 ⟨_, _, rfl, hq4876, hq4873⟩⟩, ⟨⟨1, _, rfl, ok_22 hq4873.1 ⟨_, rfl⟩⟩, trivial⟩⟩⟩
    have hF : Fr B0 [] κ H0 _ := hF.closeN hB (fa_c (fun h9 => absurd hfq4876 h9) (fa_c (fun h9 => absurd hfw h9) (fa_c (fun h9 => absurd hfq4873 h9) fa_n)))
    have hL : OkL B0 _ := hB.2.2.2.2.2
    have hKF : KF κ κ4877 := hx4877.f
    have hKX : KX κ κ4877 := hx4877
    have hv := (hx4877.f.t2 hv (by decide))
    have hP : va_P D vwCl [(w, .inr (0, [.ref q4876, .ref q4873])), (q4873, .inl (cs 0, 16, .inl (fun _ => 0))), (v, .inl (cs 0, 600, .inl g4875)), (q4876, .inl (cs 0, n, .inl gq4876))] _ := hB.1
    exact en_v hx hb hr hlocks hL (show 2 ≤ 2 by omega) (show ((0 + 16) + 600) ≤ 616 by omega) dX0_init_29 (⟨_, hKX, hT, hF, hw⟩)
  · have c4874 : ¬ 0 ≤ n := fun h9 => c4874 ((nI_leI (a := 0) (b := n) (by omega) (by omega)).mpr h9)
    refine lv_iconst (v := 0) hx hb dX0_init_18 (by decide) ?_
    refine lv_goto (tgt := 23) hx hb dX0_init_19 (by decide) ?_
    obtain ⟨hb4878, e4878, hat4878, hk4878⟩ := hT.o17 hv.1
    obtain ⟨g4878, rfl⟩ := hk4878
    have hB : Bx B0 D _ [(w, .inr (0, [.null, .ref q4873])), (q4873, .inl (cs 0, 16, .inl (fun _ => 0))), (v, .inl (cs 0, 600, .inl g4878))] [w, q4873] _ _ := hB.more hat4878 hb4878 (fa_c (ne_c hfw hv.1 (by decide))  (fa_c (nw_ne hat4878 hgeq4873) fa_n)) (fa_c (ne_c hfw hv.1 (by decide))  (fa_c (nw_ne hat4878 hgeq4873) fa_n))
    have hL : OkL B0 _ := hB.2.2.2.2.2
    refine cs_r (As := [.ref v, .int 0]) (rest := [.ref w]) ⟨hx, hb, hml, hown, hts⟩ (c_J7_copyOf_59c91 (v := v) (n := 0) hb4878 (hB.1 2 _ rfl) (by omega)) (va_cwS 2 hts gX0_init_J7_copyOf_59c91 rfl rfl rfl hdJ7_copyOf_59c91_o ⟨Nat.le_of_ble_eq_true rfl, Nat.le_of_ble_eq_true rfl⟩) hN hE hL rfl rfl hl.1 (Nat.le_of_ble_eq_true rfl) dX0_init_23 (show 1 + 1 ≤ 2 by omega) (show (0 + 16) + 600 ≤ 616 by omega) (fun q4879 H1 locs hL hqq4879 => ?_)
    obtain ⟨heq4879, hzq4879, hoq4879, gq4879, hatq4879⟩ := hqq4879
    have hB := hB.lc hL
    have hgeq4879 : _ ≤ q4879 := Nat.le_trans hB.2.2.1 (Nat.le_of_eq heq4879.symm)
    have hbq4879 : B0 ≤ q4879 := Nat.le_trans hb0 hgeq4879
    have hfq4879 : (κ q4879).1 = 0 := hT.fresh hgeq4879
    have hB := hB.nwm heq4879 hzq4879 hoq4879 hatq4879 hb0
    have hB : Bx B0 D _ [(w, .inr (0, [.null, .ref q4873])), (q4873, .inl (cs 0, 16, .inl (fun _ => 0))), (v, .inl (cs 0, 600, .inl g4878)), (q4879, .inl (cs 0, 0, .inl gq4879))] [q4879, w, q4873] _ _ := hB
    refine b_putF (D := D) (ci := 0) (v := .ref q4879) (ty := .array .int) (C := RX0) (T := TX0) (N := 2) hx hb hts iX0_init_0 tyX0 tyX0_ok nmX0 hown hN hB 0 rfl rfl 0 (by decide) (hts _ mX0_init_6) (fun _ h9 => h9) rfl hin rfl (by decide +kernel) rfl rfl (Nat.le_of_ble_eq_true rfl) (.inr ⟨rfl, List.mem_of_getElem? (i := 1) rfl⟩) dX0_init_26 (fun H locs hB => ?_)
    have hB : Bx B0 D _ [(w, .inr (0, [.ref q4879, .ref q4873])), (q4873, .inl (cs 0, 16, .inl (fun _ => 0))), (v, .inl (cs 0, 600, .inl g4878)), (q4879, .inl (cs 0, 0, .inl gq4879))] [q4879, w, q4873] _ _ := hB
    obtain ⟨κ4880, hκ4880⟩ : ∃ κ9 : KM, κ9 = (ku (ku (ku κ w (1, 15, 0, 0)) q4873 (22, 16, 0, 0)) q4879 (21, 15, 0, 0)) := ⟨_, rfl⟩
    have hx4880 : KX κ κ4880 := by rw [hκ4880]; exact (((KX.ku hfw).tr (KX.ku (by rw [ku_n (fun e9 => absurd (hB.2.1.1 1 0 _ _ rfl rfl e9) (by decide))]; exact hfq4873))).tr (KX.ku (by rw [ku_n (fun e9 => absurd (hB.2.1.1 3 1 _ _ rfl rfl e9) (by decide)), ku_n (fun e9 => absurd (hB.2.1.1 3 0 _ _ rfl rfl e9) (by decide))]; exact hfq4879)))
    have ew : κ4880 w = (1, 15, 0, 0) := by rw [hκ4880, ku_n (fun e9 => absurd (hB.2.1.1 0 3 _ _ rfl rfl e9) (by decide)), ku_n (fun e9 => absurd (hB.2.1.1 0 1 _ _ rfl rfl e9) (by decide)), ku_a]
    have hw : T2 κ4880 w 1 15 := ⟨by rw [ew], by rw [ew]⟩
    have eq4873 : κ4880 q4873 = (22, 16, 0, 0) := by rw [hκ4880, ku_n (fun e9 => absurd (hB.2.1.1 1 3 _ _ rfl rfl e9) (by decide)), ku_a]
    have hq4873 : T2 κ4880 q4873 22 16 := ⟨by rw [eq4873], by rw [eq4873]⟩
    have eq4879 : κ4880 q4879 = (21, 15, 0, 0) := by rw [hκ4880, ku_a]
    have hq4879 : T2 κ4880 q4879 21 15 := ⟨by rw [eq4879], by rw [eq4879]⟩
    have hx9 := hx4880
    have hT : WT B0 D cs T κ4880 _ := hT.closeN hB hx4880 (fun a9 h9 => by rw [hκ4880, ku_n (fun e9 => h9 (by rw [e9]; exact List.mem_of_getElem? (i := 0) rfl)), ku_n (fun e9 => h9 (by rw [e9]; exact List.mem_of_getElem? (i := 2) rfl)), ku_n (fun e9 => h9 (by rw [e9]; exact List.mem_of_getElem? (i := 1) rfl))]) ⟨⟨3, _, rfl, ok_21 hq4879.1 ⟨_, _, rfl, (by omega)⟩⟩, ⟨⟨0, _, rfl, ok_1 hw.1 ⟨_, _, rfl, hq4879, hq4873⟩⟩, ⟨⟨1, _, rfl, ok_22 hq4873.1 ⟨_, rfl⟩⟩, trivial⟩⟩⟩
    have hF : Fr B0 [] κ H0 _ := hF.closeN hB (fa_c (fun h9 => absurd hfq4879 h9) (fa_c (fun h9 => absurd hfw h9) (fa_c (fun h9 => absurd hfq4873 h9) fa_n)))
    have hL : OkL B0 _ := hB.2.2.2.2.2
    have hKF : KF κ κ4880 := hx4880.f
    have hKX : KX κ κ4880 := hx4880
    have hv := (hx4880.f.t2 hv (by decide))
    have hP : va_P D vwCl [(w, .inr (0, [.ref q4879, .ref q4873])), (q4873, .inl (cs 0, 16, .inl (fun _ => 0))), (v, .inl (cs 0, 600, .inl g4878)), (q4879, .inl (cs 0, 0, .inl gq4879))] _ := hB.1
    exact en_v hx hb hr hlocks hL (show 2 ≤ 2 by omega) (show ((0 + 16) + 600) ≤ 616 by omega) dX0_init_29 (⟨_, hKX, hT, hF, hw⟩)
theorem mX6_init_1 : (.methodLink RX6 1 objectInit : Cond) ∈ wsX6_init := List.mem_of_getElem? (i := 1) (by decide +kernel)
theorem mX6_init_2 : (.instanceMethod objectInit : Cond) ∈ wsX6_init := List.mem_of_getElem? (i := 2) (by decide +kernel)
theorem mX6_init_3 : (.code objectInit ⟨#[0xb1]⟩ 1 none : Cond) ∈ wsX6_init := List.mem_of_getElem? (i := 3) (by decide +kernel)
theorem mX6_init_4 : (.arrayClass .boolean : Cond) ∈ wsX6_init := List.mem_of_getElem? (i := 4) (by decide +kernel)
theorem mX6_init_5 : (.fieldLink RX6 9 "OneBeat$Setup" "isClockTold" "[Z" : Cond) ∈ wsX6_init := List.mem_of_getElem? (i := 5) (by decide +kernel)
theorem iX6_init_6 : ∀ w ∈ wsX60, w ∈ wsX6_init := fun w h => List.mem_of_mem_drop (List.mem_of_mem_take ((show wsX60 = (wsX6_init.drop 11).take 8 by decide +kernel) ▸ h))
theorem mX6_init_6 : (.arrayClass .int : Cond) ∈ wsX6_init := List.mem_of_getElem? (i := 6) (by decide +kernel)
theorem mX6_init_7 : (.fieldLink RX6 13 "OneBeat$Setup" "offset" "[I" : Cond) ∈ wsX6_init := List.mem_of_getElem? (i := 7) (by decide +kernel)
theorem mX6_init_8 : (.fieldLink RX6 17 "OneBeat$Setup" "drift" "[I" : Cond) ∈ wsX6_init := List.mem_of_getElem? (i := 8) (by decide +kernel)
theorem mX6_init_9 : (.fieldLink RX6 20 "OneBeat$Setup" "delay" "[I" : Cond) ∈ wsX6_init := List.mem_of_getElem? (i := 9) (by decide +kernel)
theorem mX6_init_10 : (.fieldLink RX6 23 "OneBeat$Setup" "players" "I" : Cond) ∈ wsX6_init := List.mem_of_getElem? (i := 10) (by decide +kernel)
set_option maxHeartbeats 4000000 in
set_option maxRecDepth 100000 in
theorem c_X6_init {l : Launch} {D : va_G} {cs : Nat → ClassId} {B0 T : Nat} {κ : KM} {H0 : Heap} (hT : WT B0 D cs T κ H0) {w : Nat} (hfw : (κ w).1 = 0) (hwb : B0 ≤ w) (hwa : va_at D vwCl (w, .inr (6, [.int 0, .int 0, .int 0, .null, .null, .null, .null, .null])) H0) {n : Nat} (hn : n ≤ 8) : KC l yX6_init wsX6_init 1 20 4 88 D cs B0 H0 [.ref w, .int (nI n)] (Qv (fun H => ∃ κ1, KX κ κ1 ∧ WT B0 D cs T κ1 H ∧ Fr B0 [] κ H0 H ∧ T2 κ1 w 7 11 ∧ κ1 w = (7, 11, 0, 0))) := by
  refine KC.of cX6_init 2 none (by decide) rfl (Nat.le_of_ble_eq_true rfl) ?_
  intro p e s m below meth c ls hx hb hr hml hown hts hlocks hin hN hE hH0 hl
  have hown : s.vm.findClass RX6 = some m.cls := hown
  have hl : lv_has ls 2 [(0, .ref w), (1, .int (nI n))] := hl
  have hL : OkL B0 [] := OkL.nil
  have hF : Fr B0 [] κ H0 H0 := Fr.rf
  have hP : va_P D vwCl [(w, .inr (6, [.int 0, .int 0, .int 0, .null, .null, .null, .null, .null]))] _ := va_P.cons hwa va_P.nil
  have hb0 : B0 ≤ H0.size := Nat.le_trans hwb (Nat.le_of_lt hwa.lt)
  refine lv_aload_n hx hb dX6_init_0 rfl (lv_at hl 0 rfl) ?_
  refine W.objInit hx hb hown (hts _ mX6_init_1) (hts _ mX6_init_2) (hts _ mX6_init_3) rfl (by rw [hml]; exact hl.1) rfl dX6_init_1 (Nat.le_of_ble_eq_true rfl) (Nat.le_of_ble_eq_true rfl) ?_
  refine W.eq (g2 := F0 m 4 ls []) rfl ?_
  refine lv_aload_n hx hb dX6_init_4 rfl (lv_at hl 0 rfl) ?_
  refine lv_bipush (v := 8) hx hb dX6_init_5 (by decide) ?_
  have hB : Bx B0 D _ [(w, .inr (6, [.int 0, .int 0, .int 0, .null, .null, .null, .null, .null]))] [] _ _ := Bx.of (fun a => (κ a).1) hL hP (fa_c hwb fa_n) (by simp only [List.map_cons, List.map_nil, hfw]; decide)
  refine nw_a (atype := .boolean) (ty := .boolean) (N' := 8) (a0 := (8, .inl (fun _ => 0))) 2 hN rfl hx hb (hts _ mX6_init_4) rfl (fun _ => rfl) (nI_pos (n := 8) (by omega)) (nI_clamp (n := 8) (by omega)) (show 8 * _ ≤ _ by simp only [componentBytes]; omega) (show 0 + 1 ≤ 4 by omega) (show 0 + 8 ≤ 88 by omega) dX6_init_7 (fun q4881 H heq4881 hzq4881 hoq4881 hatq4881 => ?_)
  have hgeq4881 : _ ≤ q4881 := Nat.le_trans hB.2.2.1 (Nat.le_of_eq heq4881.symm)
  have hbq4881 : B0 ≤ q4881 := Nat.le_trans hb0 hgeq4881
  have hfq4881 : (κ q4881).1 = 0 := hT.fresh hgeq4881
  have hB := hB.nwm heq4881 hzq4881 hoq4881 hatq4881 hb0
  have hB : Bx B0 D _ [(w, .inr (6, [.int 0, .int 0, .int 0, .null, .null, .null, .null, .null])), (q4881, .inl (cs 2, 8, .inl (fun _ => 0)))] [q4881] _ _ := hB
  refine b_putF (D := D) (ci := 6) (v := .ref q4881) (ty := .array .boolean) (C := RX6) (T := TX6) (N := 8) hx hb hts iX6_init_6 tyX6 tyX6_ok nmX6 hown hN hB 0 rfl rfl 4 (by decide) (hts _ mX6_init_5) (fun _ h9 => h9) rfl hin rfl (by decide +kernel) rfl rfl (Nat.le_of_ble_eq_true rfl) (.inl rfl) dX6_init_9 (fun H locs hB => ?_)
  have hB : Bx B0 D _ [(w, .inr (6, [.int 0, .int 0, .int 0, .null, .ref q4881, .null, .null, .null])), (q4881, .inl (cs 2, 8, .inl (fun _ => 0)))] [w, q4881] _ _ := hB
  refine lv_aload_n hx hb dX6_init_12 rfl (lv_at hl 0 rfl) ?_
  refine lv_bipush (v := 8) hx hb dX6_init_13 (by decide) ?_
  refine nw_a (atype := .int) (ty := .int) (N' := 8) (a0 := (8, .inl (fun _ => 0))) 0 hN rfl hx hb (hts _ mX6_init_6) rfl (fun _ => rfl) (nI_pos (n := 8) (by omega)) (nI_clamp (n := 8) (by omega)) (show 8 * _ ≤ _ by simp only [componentBytes]; omega) (show 1 + 1 ≤ 4 by omega) (show (0 + 8) + 8 ≤ 88 by omega) dX6_init_15 (fun q4882 H heq4882 hzq4882 hoq4882 hatq4882 => ?_)
  have hgeq4882 : _ ≤ q4882 := Nat.le_trans hB.2.2.1 (Nat.le_of_eq heq4882.symm)
  have hbq4882 : B0 ≤ q4882 := Nat.le_trans hb0 hgeq4882
  have hfq4882 : (κ q4882).1 = 0 := hT.fresh hgeq4882
  have hB := hB.nwm heq4882 hzq4882 hoq4882 hatq4882 hb0
  have hB : Bx B0 D _ [(w, .inr (6, [.int 0, .int 0, .int 0, .null, .ref q4881, .null, .null, .null])), (q4881, .inl (cs 2, 8, .inl (fun _ => 0))), (q4882, .inl (cs 0, 8, .inl (fun _ => 0)))] [q4882, w, q4881] _ _ := hB
  refine b_putF (D := D) (ci := 6) (v := .ref q4882) (ty := .array .int) (C := RX6) (T := TX6) (N := 8) hx hb hts iX6_init_6 tyX6 tyX6_ok nmX6 hown hN hB 0 rfl rfl 5 (by decide) (hts _ mX6_init_7) (fun _ h9 => h9) rfl hin rfl (by decide +kernel) rfl rfl (Nat.le_of_ble_eq_true rfl) (.inr ⟨rfl, List.mem_of_getElem? (i := 1) rfl⟩) dX6_init_17 (fun H locs hB => ?_)
  have hB : Bx B0 D _ [(w, .inr (6, [.int 0, .int 0, .int 0, .null, .ref q4881, .ref q4882, .null, .null])), (q4881, .inl (cs 2, 8, .inl (fun _ => 0))), (q4882, .inl (cs 0, 8, .inl (fun _ => 0)))] [q4882, w, q4881] _ _ := hB
  refine lv_aload_n hx hb dX6_init_20 rfl (lv_at hl 0 rfl) ?_
  refine lv_bipush (v := 8) hx hb dX6_init_21 (by decide) ?_
  refine nw_a (atype := .int) (ty := .int) (N' := 8) (a0 := (8, .inl (fun _ => 0))) 0 hN rfl hx hb (hts _ mX6_init_6) rfl (fun _ => rfl) (nI_pos (n := 8) (by omega)) (nI_clamp (n := 8) (by omega)) (show 8 * _ ≤ _ by simp only [componentBytes]; omega) (show 2 + 1 ≤ 4 by omega) (show ((0 + 8) + 8) + 8 ≤ 88 by omega) dX6_init_23 (fun q4883 H heq4883 hzq4883 hoq4883 hatq4883 => ?_)
  have hgeq4883 : _ ≤ q4883 := Nat.le_trans hB.2.2.1 (Nat.le_of_eq heq4883.symm)
  have hbq4883 : B0 ≤ q4883 := Nat.le_trans hb0 hgeq4883
  have hfq4883 : (κ q4883).1 = 0 := hT.fresh hgeq4883
  have hB := hB.nwm heq4883 hzq4883 hoq4883 hatq4883 hb0
  have hB : Bx B0 D _ [(w, .inr (6, [.int 0, .int 0, .int 0, .null, .ref q4881, .ref q4882, .null, .null])), (q4881, .inl (cs 2, 8, .inl (fun _ => 0))), (q4882, .inl (cs 0, 8, .inl (fun _ => 0))), (q4883, .inl (cs 0, 8, .inl (fun _ => 0)))] [q4883, q4882, w, q4881] _ _ := hB
  refine b_putF (D := D) (ci := 6) (v := .ref q4883) (ty := .array .int) (C := RX6) (T := TX6) (N := 8) hx hb hts iX6_init_6 tyX6 tyX6_ok nmX6 hown hN hB 0 rfl rfl 6 (by decide) (hts _ mX6_init_8) (fun _ h9 => h9) rfl hin rfl (by decide +kernel) rfl rfl (Nat.le_of_ble_eq_true rfl) (.inr ⟨rfl, List.mem_of_getElem? (i := 2) rfl⟩) dX6_init_25 (fun H locs hB => ?_)
  have hB : Bx B0 D _ [(w, .inr (6, [.int 0, .int 0, .int 0, .null, .ref q4881, .ref q4882, .ref q4883, .null])), (q4881, .inl (cs 2, 8, .inl (fun _ => 0))), (q4882, .inl (cs 0, 8, .inl (fun _ => 0))), (q4883, .inl (cs 0, 8, .inl (fun _ => 0)))] [q4883, q4882, w, q4881] _ _ := hB
  refine lv_aload_n hx hb dX6_init_28 rfl (lv_at hl 0 rfl) ?_
  refine lv_bipush (v := 64) hx hb dX6_init_29 (by decide) ?_
  refine nw_a (atype := .int) (ty := .int) (N' := 64) (a0 := (64, .inl (fun _ => 0))) 0 hN rfl hx hb (hts _ mX6_init_6) rfl (fun _ => rfl) (nI_pos (n := 64) (by omega)) (nI_clamp (n := 64) (by omega)) (show 64 * _ ≤ _ by simp only [componentBytes]; omega) (show 3 + 1 ≤ 4 by omega) (show (((0 + 8) + 8) + 8) + 64 ≤ 88 by omega) dX6_init_31 (fun q4884 H heq4884 hzq4884 hoq4884 hatq4884 => ?_)
  have hgeq4884 : _ ≤ q4884 := Nat.le_trans hB.2.2.1 (Nat.le_of_eq heq4884.symm)
  have hbq4884 : B0 ≤ q4884 := Nat.le_trans hb0 hgeq4884
  have hfq4884 : (κ q4884).1 = 0 := hT.fresh hgeq4884
  have hB := hB.nwm heq4884 hzq4884 hoq4884 hatq4884 hb0
  have hB : Bx B0 D _ [(w, .inr (6, [.int 0, .int 0, .int 0, .null, .ref q4881, .ref q4882, .ref q4883, .null])), (q4881, .inl (cs 2, 8, .inl (fun _ => 0))), (q4882, .inl (cs 0, 8, .inl (fun _ => 0))), (q4883, .inl (cs 0, 8, .inl (fun _ => 0))), (q4884, .inl (cs 0, 64, .inl (fun _ => 0)))] [q4884, q4883, q4882, w, q4881] _ _ := hB
  refine b_putF (D := D) (ci := 6) (v := .ref q4884) (ty := .array .int) (C := RX6) (T := TX6) (N := 8) hx hb hts iX6_init_6 tyX6 tyX6_ok nmX6 hown hN hB 0 rfl rfl 7 (by decide) (hts _ mX6_init_9) (fun _ h9 => h9) rfl hin rfl (by decide +kernel) rfl rfl (Nat.le_of_ble_eq_true rfl) (.inr ⟨rfl, List.mem_of_getElem? (i := 3) rfl⟩) dX6_init_33 (fun H locs hB => ?_)
  have hB : Bx B0 D _ [(w, .inr (6, [.int 0, .int 0, .int 0, .null, .ref q4881, .ref q4882, .ref q4883, .ref q4884])), (q4881, .inl (cs 2, 8, .inl (fun _ => 0))), (q4882, .inl (cs 0, 8, .inl (fun _ => 0))), (q4883, .inl (cs 0, 8, .inl (fun _ => 0))), (q4884, .inl (cs 0, 64, .inl (fun _ => 0)))] [q4884, q4883, q4882, w, q4881] _ _ := hB
  refine lv_aload_n hx hb dX6_init_36 rfl (lv_at hl 0 rfl) ?_
  refine lv_iload_n hx hb dX6_init_37 rfl (lv_at hl 1 rfl) ?_
  refine b_putF (D := D) (ci := 6) (v := .int (nI n)) (ty := .int) (C := RX6) (T := TX6) (N := 8) hx hb hts iX6_init_6 tyX6 tyX6_ok nmX6 hown hN hB 0 rfl rfl 0 (by decide) (hts _ mX6_init_10) (fun _ h9 => h9) rfl hin rfl (by decide +kernel) rfl rfl (Nat.le_of_ble_eq_true rfl) (.inr ⟨rfl, List.mem_of_getElem? (i := 3) rfl⟩) dX6_init_38 (fun H locs hB => ?_)
  have hB : Bx B0 D _ [(w, .inr (6, [.int (nI n), .int 0, .int 0, .null, .ref q4881, .ref q4882, .ref q4883, .ref q4884])), (q4881, .inl (cs 2, 8, .inl (fun _ => 0))), (q4882, .inl (cs 0, 8, .inl (fun _ => 0))), (q4883, .inl (cs 0, 8, .inl (fun _ => 0))), (q4884, .inl (cs 0, 64, .inl (fun _ => 0)))] [q4884, q4883, q4882, w, q4881] _ _ := hB
  obtain ⟨κ4885, hκ4885⟩ : ∃ κ9 : KM, κ9 = (ku (ku (ku (ku (ku κ w (7, 11, 0, 0)) q4881 (18, 11, 0, 0)) q4882 (19, 11, 0, 0)) q4883 (19, 11, 0, 0)) q4884 (20, 11, 0, 0)) := ⟨_, rfl⟩
  have hx4885 : KX κ κ4885 := by rw [hκ4885]; exact (((((KX.ku hfw).tr (KX.ku (by rw [ku_n (fun e9 => absurd (hB.2.1.1 1 0 _ _ rfl rfl e9) (by decide))]; exact hfq4881))).tr (KX.ku (by rw [ku_n (fun e9 => absurd (hB.2.1.1 2 1 _ _ rfl rfl e9) (by decide)), ku_n (fun e9 => absurd (hB.2.1.1 2 0 _ _ rfl rfl e9) (by decide))]; exact hfq4882))).tr (KX.ku (by rw [ku_n (fun e9 => absurd (hB.2.1.1 3 2 _ _ rfl rfl e9) (by decide)), ku_n (fun e9 => absurd (hB.2.1.1 3 1 _ _ rfl rfl e9) (by decide)), ku_n (fun e9 => absurd (hB.2.1.1 3 0 _ _ rfl rfl e9) (by decide))]; exact hfq4883))).tr (KX.ku (by rw [ku_n (fun e9 => absurd (hB.2.1.1 4 3 _ _ rfl rfl e9) (by decide)), ku_n (fun e9 => absurd (hB.2.1.1 4 2 _ _ rfl rfl e9) (by decide)), ku_n (fun e9 => absurd (hB.2.1.1 4 1 _ _ rfl rfl e9) (by decide)), ku_n (fun e9 => absurd (hB.2.1.1 4 0 _ _ rfl rfl e9) (by decide))]; exact hfq4884)))
  have ew : κ4885 w = (7, 11, 0, 0) := by rw [hκ4885, ku_n (fun e9 => absurd (hB.2.1.1 0 4 _ _ rfl rfl e9) (by decide)), ku_n (fun e9 => absurd (hB.2.1.1 0 3 _ _ rfl rfl e9) (by decide)), ku_n (fun e9 => absurd (hB.2.1.1 0 2 _ _ rfl rfl e9) (by decide)), ku_n (fun e9 => absurd (hB.2.1.1 0 1 _ _ rfl rfl e9) (by decide)), ku_a]
  have hw : T2 κ4885 w 7 11 := ⟨by rw [ew], by rw [ew]⟩
  have eq4881 : κ4885 q4881 = (18, 11, 0, 0) := by rw [hκ4885, ku_n (fun e9 => absurd (hB.2.1.1 1 4 _ _ rfl rfl e9) (by decide)), ku_n (fun e9 => absurd (hB.2.1.1 1 3 _ _ rfl rfl e9) (by decide)), ku_n (fun e9 => absurd (hB.2.1.1 1 2 _ _ rfl rfl e9) (by decide)), ku_a]
  have hq4881 : T2 κ4885 q4881 18 11 := ⟨by rw [eq4881], by rw [eq4881]⟩
  have eq4882 : κ4885 q4882 = (19, 11, 0, 0) := by rw [hκ4885, ku_n (fun e9 => absurd (hB.2.1.1 2 4 _ _ rfl rfl e9) (by decide)), ku_n (fun e9 => absurd (hB.2.1.1 2 3 _ _ rfl rfl e9) (by decide)), ku_a]
  have hq4882 : T2 κ4885 q4882 19 11 := ⟨by rw [eq4882], by rw [eq4882]⟩
  have eq4883 : κ4885 q4883 = (19, 11, 0, 0) := by rw [hκ4885, ku_n (fun e9 => absurd (hB.2.1.1 3 4 _ _ rfl rfl e9) (by decide)), ku_a]
  have hq4883 : T2 κ4885 q4883 19 11 := ⟨by rw [eq4883], by rw [eq4883]⟩
  have eq4884 : κ4885 q4884 = (20, 11, 0, 0) := by rw [hκ4885, ku_a]
  have hq4884 : T2 κ4885 q4884 20 11 := ⟨by rw [eq4884], by rw [eq4884]⟩
  have hx9 := hx4885
  have hT : WT B0 D cs T κ4885 _ := hT.closeN hB hx4885 (fun a9 h9 => by rw [hκ4885, ku_n (fun e9 => h9 (by rw [e9]; exact List.mem_of_getElem? (i := 0) rfl)), ku_n (fun e9 => h9 (by rw [e9]; exact List.mem_of_getElem? (i := 1) rfl)), ku_n (fun e9 => h9 (by rw [e9]; exact List.mem_of_getElem? (i := 2) rfl)), ku_n (fun e9 => h9 (by rw [e9]; exact List.mem_of_getElem? (i := 4) rfl)), ku_n (fun e9 => h9 (by rw [e9]; exact List.mem_of_getElem? (i := 3) rfl))]) ⟨⟨4, _, rfl, ok_20 hq4884.1 ⟨_, rfl, (fun _ _ => ⟨0, Nat.zero_le _, rfl⟩)⟩⟩, ⟨⟨3, _, rfl, ok_19 hq4883.1 ⟨_, rfl⟩⟩, ⟨⟨2, _, rfl, ok_19 hq4882.1 ⟨_, rfl⟩⟩, ⟨⟨0, _, rfl, ok_7 hw.1 ⟨_, _, _, _, _, _, _, _, rfl, (by omega), (Or.inl rfl), (Or.inl (by rw [ew]; decide)), ⟨hq4881.1, by rw [ew]; exact hq4881.2⟩, ⟨hq4882.1, by rw [ew]; exact hq4882.2⟩, ⟨hq4883.1, by rw [ew]; exact hq4883.2⟩, ⟨hq4884.1, by rw [ew]; exact hq4884.2⟩⟩⟩, ⟨⟨1, _, rfl, ok_18 hq4881.1 ⟨_, rfl, (fun _ _ => Or.inl rfl)⟩⟩, trivial⟩⟩⟩⟩⟩
  have hF : Fr B0 [] κ H0 _ := hF.closeN hB (fa_c (fun h9 => absurd hfq4884 h9) (fa_c (fun h9 => absurd hfq4883 h9) (fa_c (fun h9 => absurd hfq4882 h9) (fa_c (fun h9 => absurd hfw h9) (fa_c (fun h9 => absurd hfq4881 h9) fa_n)))))
  have hL : OkL B0 _ := hB.2.2.2.2.2
  have hKF : KF κ κ4885 := hx4885.f
  have hKX : KX κ κ4885 := hx4885
  have hP : va_P D vwCl [(w, .inr (6, [.int (nI n), .int 0, .int 0, .null, .ref q4881, .ref q4882, .ref q4883, .ref q4884])), (q4881, .inl (cs 2, 8, .inl (fun _ => 0))), (q4882, .inl (cs 0, 8, .inl (fun _ => 0))), (q4883, .inl (cs 0, 8, .inl (fun _ => 0))), (q4884, .inl (cs 0, 64, .inl (fun _ => 0)))] _ := hB.1
  exact en_v hx hb hr hlocks hL (show 4 ≤ 4 by omega) (show ((((0 + 8) + 8) + 8) + 64) ≤ 88 by omega) dX6_init_41 (⟨_, hKX, hT, hF, hw, ew⟩)
theorem mX5_readStatement_7 : (.fieldLink RX5 124 "OneBeat$Reader" "start" "I" : Cond) ∈ wsX5_readStatement := List.mem_of_getElem? (i := 7) (by decide +kernel)
theorem iX5_readStatement_5 : ∀ w ∈ wsX50, w ∈ wsX5_readStatement := fun w h => List.mem_of_mem_drop (List.mem_of_mem_take ((show wsX50 = (wsX5_readStatement.drop 183).take 14 by decide +kernel) ▸ h))
theorem mX5_readStatement_1 : (.fieldLink RX5 65 "OneBeat$Reader" "setup" "LOneBeat$Setup;" : Cond) ∈ wsX5_readStatement := List.mem_of_getElem? (i := 1) (by decide +kernel)
theorem iX5_readStatement_6 : ∀ w ∈ wsX60, w ∈ wsX5_readStatement := fun w h => List.mem_of_mem_drop (List.mem_of_mem_take ((show wsX60 = (wsX5_readStatement.drop 197).take 8 by decide +kernel) ▸ h))
theorem iX5_readStatement_0 : ∀ w ∈ wsX00, w ∈ wsX5_readStatement := fun w h => List.mem_of_mem_drop (List.mem_of_mem_take ((show wsX00 = (wsX5_readStatement.drop 205).take 2 by decide +kernel) ▸ h))
theorem mX5_readStatement_2 : (.classLink RX5 119 RX0 : Cond) ∈ wsX5_readStatement := List.mem_of_getElem? (i := 2) (by decide +kernel)
theorem mX5_readStatement_3 : (.instantiable RX0 2 : Cond) ∈ wsX5_readStatement := List.mem_of_getElem? (i := 3) (by decide +kernel)
theorem mX5_readStatement_4 : (.initialized RX0 : Cond) ∈ wsX5_readStatement := List.mem_of_getElem? (i := 4) (by decide +kernel)
theorem dfl0 : ∀ j, j < 2 → defaultValue (tyX0 j) = vp_V [.null, .null] j := by decide +kernel
theorem mX5_readStatement_5 : (.fieldLink RX5 15 "OneBeat$Reader" "codes" "[I" : Cond) ∈ wsX5_readStatement := List.mem_of_getElem? (i := 5) (by decide +kernel)
theorem mX5_readStatement_6 : (.fieldLink RX5 38 "OneBeat$Reader" "codeCount" "I" : Cond) ∈ wsX5_readStatement := List.mem_of_getElem? (i := 6) (by decide +kernel)
theorem mX5_readStatement_157 : (.instanceMethod yX0_init : Cond) ∈ wsX5_readStatement := List.mem_of_getElem? (i := 157) (by decide +kernel)
theorem mX5_readStatement_156 : (.methodLink RX5 121 yX0_init : Cond) ∈ wsX5_readStatement := List.mem_of_getElem? (i := 156) (by decide +kernel)
theorem hdX0_init_o : yX0_init.cls ≠ "java/lang/invoke/MethodHandle" ∧ yX0_init.cls ≠ "java/lang/invoke/VarHandle" ∧ (parseMethodDescriptor yX0_init.desc).map (fun d => d.parameters.length) = some 2 := by decide +kernel
theorem hdX5_readPatience_v : yX5_readPatience.cls = RX5 ∧ yX5_readPatience.cls ≠ "java/lang/invoke/MethodHandle" ∧ yX5_readPatience.cls ≠ "java/lang/invoke/VarHandle" ∧ (parseMethodDescriptor yX5_readPatience.desc).map (fun d => d.parameters.length) = some 0 := by decide +kernel
theorem hdX5_readNeed_v : yX5_readNeed.cls = RX5 ∧ yX5_readNeed.cls ≠ "java/lang/invoke/MethodHandle" ∧ yX5_readNeed.cls ≠ "java/lang/invoke/VarHandle" ∧ (parseMethodDescriptor yX5_readNeed.desc).map (fun d => d.parameters.length) = some 0 := by decide +kernel
theorem hdX5_readLink_v : yX5_readLink.cls = RX5 ∧ yX5_readLink.cls ≠ "java/lang/invoke/MethodHandle" ∧ yX5_readLink.cls ≠ "java/lang/invoke/VarHandle" ∧ (parseMethodDescriptor yX5_readLink.desc).map (fun d => d.parameters.length) = some 0 := by decide +kernel
theorem hdX5_readClock_v : yX5_readClock.cls = RX5 ∧ yX5_readClock.cls ≠ "java/lang/invoke/MethodHandle" ∧ yX5_readClock.cls ≠ "java/lang/invoke/VarHandle" ∧ (parseMethodDescriptor yX5_readClock.desc).map (fun d => d.parameters.length) = some 0 := by decide +kernel
set_option maxHeartbeats 4000000 in
set_option maxRecDepth 100000 in
theorem c_X5_readStatement {l : Launch} {D : va_G} {cs : Nat → ClassId} {B0 T : Nat} {κ : KM} {H0 : Heap} (hT : WT B0 D cs T κ H0) {w : Nat} (hw : T2 κ w 6 10) (hs0 : ¬ (κ w).2.2.2 = 0) (hsu : T2 κ (κ w).2.2.2 7 11) : KC l yX5_readStatement wsX5_readStatement 21 467 3 618 D cs B0 H0 [.ref w] (Qi (fun r H => ∃ κ1, (∀ a, (κ a).1 ≠ 0 → a ≠ (κ w).2.2.2 → κ1 a = κ a) ∧ WT B0 D cs T κ1 H ∧ Fr B0 [10, 11] κ H0 H ∧ T2 κ1 (κ w).2.2.2 7 11 ∧ (((κ1 (κ w).2.2.2).2.2.1 = (κ (κ w).2.2.2).2.2.1 ∧ Gr H0 H 0 0) ∨ ((κ (κ w).2.2.2).2.2.1 ≠ 1 ∧ (κ1 (κ w).2.2.2).2.2.1 = 1 ∧ Gr H0 H 3 618)) ∧ (r = 0 ∨ r = 1))) := by
  refine KC.of cX5_readStatement 1 (some .boolean) (by decide) rfl (Nat.le_of_ble_eq_true rfl) ?_
  intro p e s m below meth c ls hx hb hr hml hown hts hlocks hin hN hE hH0 hl
  have hown : s.vm.findClass RX5 = some m.cls := hown
  have hl : lv_has ls 1 [(0, .ref w)] := hl
  have hL : OkL B0 [] := OkL.nil
  have hF : Fr B0 [10, 11] κ H0 H0 := Fr.rf
  refine lv_aload_n hx hb dX5_readStatement_0 rfl (lv_at hl 0 rfl) ?_
  refine va_ldcS hx hb hown (hN.s 2 rfl) dX5_readStatement_1 ?_
  refine cv_i (As := [.ref (cs 102)]) (rest := []) (b := w) ⟨hx, hb, hml, hown, hts⟩ (c_X5_isWord hT (w := w) hw (i := 2) (by decide)) (cwV 1 hts gX5_readStatement_X5_isWord rfl rfl rfl hdX5_isWord_v ⟨Nat.le_of_ble_eq_true rfl, Nat.le_of_ble_eq_true rfl⟩) hN hE hL (rcv6 hN hT hw.1) rfl rfl hl.1 (Nat.le_of_ble_eq_true rfl) dX5_readStatement_3 (Nat.zero_le _) (Nat.zero_le _) (fun r4886 H1 locs hL hqr4886 => ?_)
  obtain ⟨h9, hqr4886⟩ := hqr4886; replace h9 := h9.symm; subst h9
  rcases hqr4886 with rfl | rfl
  · refine lv_if_eq (tgt := 14) hx hb dX5_readStatement_6 (by decide) (fun _ => ?_) (fun c9 => absurd (by decide) c9)
    refine lv_aload_n hx hb dX5_readStatement_14 rfl (lv_at hl 0 rfl) ?_
    refine va_ldcS hx hb hown (hN.s 3 rfl) dX5_readStatement_15 ?_
    refine cv_i (As := [.ref (cs 103)]) (rest := []) (b := w) ⟨hx, hb, hml, hown, hts⟩ (c_X5_isWord hT (w := w) hw (i := 3) (by decide)) (cwV 1 hts gX5_readStatement_X5_isWord rfl rfl rfl hdX5_isWord_v ⟨Nat.le_of_ble_eq_true rfl, Nat.le_of_ble_eq_true rfl⟩) hN hE hL (rcv6 hN hT hw.1) rfl rfl hl.1 (Nat.le_of_ble_eq_true rfl) dX5_readStatement_17 (Nat.zero_le _) (Nat.zero_le _) (fun r4887 H1 locs hL hqr4887 => ?_)
    obtain ⟨h9, hqr4887⟩ := hqr4887; replace h9 := h9.symm; subst h9
    rcases hqr4887 with rfl | rfl
    · refine lv_if_eq (tgt := 28) hx hb dX5_readStatement_20 (by decide) (fun _ => ?_) (fun c9 => absurd (by decide) c9)
      refine lv_aload_n hx hb dX5_readStatement_28 rfl (lv_at hl 0 rfl) ?_
      refine va_ldcS hx hb hown (hN.s 4 rfl) dX5_readStatement_29 ?_
      refine cv_i (As := [.ref (cs 104)]) (rest := []) (b := w) ⟨hx, hb, hml, hown, hts⟩ (c_X5_isWord hT (w := w) hw (i := 4) (by decide)) (cwV 1 hts gX5_readStatement_X5_isWord rfl rfl rfl hdX5_isWord_v ⟨Nat.le_of_ble_eq_true rfl, Nat.le_of_ble_eq_true rfl⟩) hN hE hL (rcv6 hN hT hw.1) rfl rfl hl.1 (Nat.le_of_ble_eq_true rfl) dX5_readStatement_31 (Nat.zero_le _) (Nat.zero_le _) (fun r4888 H1 locs hL hqr4888 => ?_)
      obtain ⟨h9, hqr4888⟩ := hqr4888; replace h9 := h9.symm; subst h9
      rcases hqr4888 with rfl | rfl
      · refine lv_if_eq (tgt := 52) hx hb dX5_readStatement_34 (by decide) (fun _ => ?_) (fun c9 => absurd (by decide) c9)
        refine lv_aload_n hx hb dX5_readStatement_52 rfl (lv_at hl 0 rfl) ?_
        refine va_ldcS hx hb hown (hN.s 5 rfl) dX5_readStatement_53 ?_
        refine cv_i (As := [.ref (cs 105)]) (rest := []) (b := w) ⟨hx, hb, hml, hown, hts⟩ (c_X5_isWord hT (w := w) hw (i := 5) (by decide)) (cwV 1 hts gX5_readStatement_X5_isWord rfl rfl rfl hdX5_isWord_v ⟨Nat.le_of_ble_eq_true rfl, Nat.le_of_ble_eq_true rfl⟩) hN hE hL (rcv6 hN hT hw.1) rfl rfl hl.1 (Nat.le_of_ble_eq_true rfl) dX5_readStatement_55 (Nat.zero_le _) (Nat.zero_le _) (fun r4889 H1 locs hL hqr4889 => ?_)
        obtain ⟨h9, hqr4889⟩ := hqr4889; replace h9 := h9.symm; subst h9
        rcases hqr4889 with rfl | rfl
        · refine lv_if_eq (tgt := 76) hx hb dX5_readStatement_58 (by decide) (fun _ => ?_) (fun c9 => absurd (by decide) c9)
          refine lv_aload_n hx hb dX5_readStatement_76 rfl (lv_at hl 0 rfl) ?_
          refine va_ldcS hx hb hown (hN.s 6 rfl) dX5_readStatement_77 ?_
          refine cv_i (As := [.ref (cs 106)]) (rest := []) (b := w) ⟨hx, hb, hml, hown, hts⟩ (c_X5_isWord hT (w := w) hw (i := 6) (by decide)) (cwV 1 hts gX5_readStatement_X5_isWord rfl rfl rfl hdX5_isWord_v ⟨Nat.le_of_ble_eq_true rfl, Nat.le_of_ble_eq_true rfl⟩) hN hE hL (rcv6 hN hT hw.1) rfl rfl hl.1 (Nat.le_of_ble_eq_true rfl) dX5_readStatement_79 (Nat.zero_le _) (Nat.zero_le _) (fun r4890 H1 locs hL hqr4890 => ?_)
          obtain ⟨h9, hqr4890⟩ := hqr4890; replace h9 := h9.symm; subst h9
          rcases hqr4890 with rfl | rfl
          · refine lv_if_eq (tgt := 133) hx hb dX5_readStatement_82 (by decide) (fun _ => ?_) (fun c9 => absurd (by decide) c9)
            refine lv_aload_n hx hb dX5_readStatement_133 rfl (lv_at hl 0 rfl) ?_
            refine lv_bipush (v := (-2)) hx hb dX5_readStatement_134 (by decide) ?_
            refine lv_aload_n hx hb dX5_readStatement_136 rfl (lv_at hl 0 rfl) ?_
            obtain ⟨hb4891, e4891, hat4891, hk4891⟩ := hT.o6 hw.1
            obtain ⟨f4891_0, f4891_2, f4891_3, f4891_4, f4891_5, f4891_6, f4891_7, f4891_8, f4891_9, f4891_10, f4891_11, f4891_12, f4891_13, rfl, c4891_1, c4891_2, c4891_3, c4891_5, c4891_10, t4891_0, t4891_9, c4891_11, c4891_p2⟩ := hk4891
            obtain rfl : f4891_11 = .ref (κ w).2.2.2 := c4891_p2.resolve_left hs0
            have hP : va_P D vwCl [(w, .inr (5, [.ref f4891_0, .int (nI ((κ w).2.2.1)), .int (nI f4891_2), .int (nI f4891_3), .int f4891_4, .int (nI f4891_5), .int f4891_6, .int f4891_7, .int f4891_8, .ref f4891_9, .int (nI f4891_10), .ref (κ w).2.2.2, .int f4891_12, .int f4891_13]))] _ := va_P.cons hat4891 va_P.nil
            refine va_get (D := D) (ci := 5) (v := .int (nI f4891_5)) (C := RX5) (T := TX5) (N := 14) hx hb hts iX5_readStatement_5 hown hN.1 hP 0 rfl rfl 5 (by decide) (hts _ mX5_readStatement_7) (fun _ h9 => h9) rfl dX5_readStatement_137 ?_
            refine cv_i (As := [.int (-2), .int (nI f4891_5)]) (rest := []) (b := w) ⟨hx, hb, hml, hown, hts⟩ (c_X5_fail hT (w := w) hw (x := (-2)) (y := (nI f4891_5))) (cwV 2 hts gX5_readStatement_X5_fail rfl rfl rfl hdX5_fail_v ⟨Nat.le_of_ble_eq_true rfl, Nat.le_of_ble_eq_true rfl⟩) hN hE hL (rcv6 hN hT hw.1) rfl rfl hl.1 (Nat.le_of_ble_eq_true rfl) dX5_readStatement_140 (Nat.zero_le _) (Nat.zero_le _) (fun r4892 H1 locs hL hqr4892 => ?_)
            obtain ⟨hT1, hF1, hqr4892⟩ := hqr4892
            have hF := hF.tr (hF1.mono (by simp))
            have hT := hT1
            obtain rfl := hqr4892
            refine W.know (fun hg => ?_)
            rw [hH0] at hg
            exact en_i hx hb hr hlocks hL rfl (Nat.zero_le _) (Nat.zero_le _) dX5_readStatement_143 (⟨_, (fun _ _ _ => rfl), hT, hF, hsu, Or.inl ⟨rfl, hg⟩, Or.inl rfl⟩)
          · refine lv_if_eq (tgt := 133) hx hb dX5_readStatement_82 (by decide) (fun c9 => absurd c9 (by decide)) (fun _ => ?_)
            refine lv_aload_n hx hb dX5_readStatement_85 rfl (lv_at hl 0 rfl) ?_
            obtain ⟨hb4893, e4893, hat4893, hk4893⟩ := hT.o6 hw.1
            obtain ⟨f4893_0, f4893_2, f4893_3, f4893_4, f4893_5, f4893_6, f4893_7, f4893_8, f4893_9, f4893_10, f4893_11, f4893_12, f4893_13, rfl, c4893_1, c4893_2, c4893_3, c4893_5, c4893_10, t4893_0, t4893_9, c4893_11, c4893_p2⟩ := hk4893
            obtain rfl : f4893_11 = .ref (κ w).2.2.2 := c4893_p2.resolve_left hs0
            have hP : va_P D vwCl [(w, .inr (5, [.ref f4893_0, .int (nI ((κ w).2.2.1)), .int (nI f4893_2), .int (nI f4893_3), .int f4893_4, .int (nI f4893_5), .int f4893_6, .int f4893_7, .int f4893_8, .ref f4893_9, .int (nI f4893_10), .ref (κ w).2.2.2, .int f4893_12, .int f4893_13]))] _ := va_P.cons hat4893 va_P.nil
            refine va_get (D := D) (ci := 5) (v := .ref (κ w).2.2.2) (C := RX5) (T := TX5) (N := 14) hx hb hts iX5_readStatement_5 hown hN.1 hP 0 rfl rfl 11 (by decide) (hts _ mX5_readStatement_1) (fun _ h9 => h9) rfl dX5_readStatement_86 ?_
            obtain ⟨hb4894, e4894, hat4894, hk4894⟩ := hT.o7 hsu.1
            obtain ⟨f4894_0, f4894_1, f4894_2, f4894_3, f4894_4, f4894_5, f4894_6, f4894_7, rfl, c4894_0, c4894_3, c4894_mg, t4894_4, t4894_5, t4894_6, t4894_7⟩ := hk4894
            rw [hsu.2] at t4894_4
            rw [hsu.2] at t4894_5
            rw [hsu.2] at t4894_6
            rw [hsu.2] at t4894_7
            have hP : va_P D vwCl [((κ w).2.2.2, .inr (6, [.int (nI f4894_0), .int f4894_1, .int f4894_2, f4894_3, .ref f4894_4, .ref f4894_5, .ref f4894_6, .ref f4894_7])), (w, .inr (5, [.ref f4893_0, .int (nI ((κ w).2.2.1)), .int (nI f4893_2), .int (nI f4893_3), .int f4893_4, .int (nI f4893_5), .int f4893_6, .int f4893_7, .int f4893_8, .ref f4893_9, .int (nI f4893_10), .ref (κ w).2.2.2, .int f4893_12, .int f4893_13]))] _ := va_P.cons hat4894 hP
            rcases c4894_3 with rfl | ⟨a4895, rfl, ta4895⟩
            · refine va_getN (D := D) (ci := 6) (v := .null) (C := RX6) (T := TX6) (N := 8) hx hb hts iX5_readStatement_6 hown hN.1 hP 0 rfl rfl 3 (by decide) (hN.f 44 rfl) (fun _ h9 => h9) rfl dX5_readStatement_89 ?_
              refine lv_ifnonnullN hx hb dX5_readStatement_92 ?_
              have hmg1 : (κ (κ w).2.2.2).2.2.1 ≠ 1 := (c4894_mg).resolve_right (by rintro ⟨_, h9⟩; cases h9)
              refine lv_aload_n hx hb dX5_readStatement_95 rfl (lv_at hl 0 rfl) ?_
              refine cv_v (As := []) (rest := []) (b := w) ⟨hx, hb, hml, hown, hts⟩ (c_X5_step hT (w := w) hw) (cwV 0 hts gX5_readStatement_X5_step rfl rfl rfl hdX5_step_v ⟨Nat.le_of_ble_eq_true rfl, Nat.le_of_ble_eq_true rfl⟩) hN hE hL (rcv6 hN hT hw.1) rfl rfl hl.1 (Nat.le_of_ble_eq_true rfl) dX5_readStatement_96 (Nat.zero_le _) (Nat.zero_le _) (fun H1 locs hL hqr4896 => ?_)
              obtain ⟨hT1, hF1, hqr4896⟩ := hqr4896
              have hP : va_P D vwCl [((κ w).2.2.2, .inr (6, [.int (nI f4894_0), .int f4894_1, .int f4894_2, .null, .ref f4894_4, .ref f4894_5, .ref f4894_6, .ref f4894_7]))] _ := hF1.hP (hP.sub [0] rfl) (fa_c ⟨by rw [hsu.1]; decide, by rw [hsu.2]; first | decide | (simp; done) | (simp; omega)⟩ fa_n)
              have hF := hF.tr (hF1.mono (by simp))
              have hT := hT1
              have f4897 := hqr4896
              refine lv_aload_n hx hb dX5_readStatement_99 rfl (lv_at hl 0 rfl) ?_
              refine lv_iconst (v := 0) hx hb dX5_readStatement_100 (by decide) ?_
              refine cv_i (As := [.int 0]) (rest := []) (b := w) ⟨hx, hb, hml, hown, hts⟩ (c_X5_readSum_d0 hT (w := w) hw) (cwV 1 hts gX5_readStatement_X5_readSum rfl rfl rfl hdX5_readSum_v ⟨Nat.le_of_ble_eq_true rfl, Nat.le_of_ble_eq_true rfl⟩) hN hE hL (rcv6 hN hT hw.1) rfl rfl hl.1 (Nat.le_of_ble_eq_true rfl) dX5_readStatement_101 (Nat.zero_le _) (Nat.zero_le _) (fun r4898 H1 locs hL hqr4898 => ?_)
              obtain ⟨hT1, hF1, hqr4898⟩ := hqr4898
              have hP : va_P D vwCl [((κ w).2.2.2, .inr (6, [.int (nI f4894_0), .int f4894_1, .int f4894_2, .null, .ref f4894_4, .ref f4894_5, .ref f4894_6, .ref f4894_7]))] _ := hF1.hP (hP.sub [0] rfl) (fa_c ⟨by rw [hsu.1]; decide, by rw [hsu.2]; first | decide | (simp; done) | (simp; omega)⟩ fa_n)
              have hF := hF.tr (hF1.mono (by simp))
              have hT := hT1
              rcases hqr4898 with rfl | rfl
              · refine lv_if_ne (tgt := 109) hx hb dX5_readStatement_104 (by decide) (fun c9 => absurd (by decide) c9) (fun _ => ?_)
                refine lv_iconst (v := 0) hx hb dX5_readStatement_107 (by decide) ?_
                refine W.know (fun hg => ?_)
                rw [hH0] at hg
                exact en_i hx hb hr hlocks hL rfl (Nat.zero_le _) (Nat.zero_le _) dX5_readStatement_108 (⟨_, (fun _ _ _ => rfl), hT, hF, hsu, Or.inl ⟨rfl, hg⟩, Or.inl rfl⟩)
              · refine lv_if_ne (tgt := 109) hx hb dX5_readStatement_104 (by decide) (fun _ => ?_) (fun c9 => absurd c9 (by decide))
                refine lv_aload_n hx hb dX5_readStatement_109 rfl (lv_at hl 0 rfl) ?_
                obtain ⟨hb4899, e4899, hat4899, hk4899⟩ := hT.o6 hw.1
                obtain ⟨f4899_0, f4899_2, f4899_3, f4899_4, f4899_5, f4899_6, f4899_7, f4899_8, f4899_9, f4899_10, f4899_11, f4899_12, f4899_13, rfl, c4899_1, c4899_2, c4899_3, c4899_5, c4899_10, t4899_0, t4899_9, c4899_11, c4899_p2⟩ := hk4899
                obtain rfl : f4899_11 = .ref (κ w).2.2.2 := c4899_p2.resolve_left hs0
                have hP : va_P D vwCl [(w, .inr (5, [.ref f4899_0, .int (nI ((κ w).2.2.1)), .int (nI f4899_2), .int (nI f4899_3), .int f4899_4, .int (nI f4899_5), .int f4899_6, .int f4899_7, .int f4899_8, .ref f4899_9, .int (nI f4899_10), .ref (κ w).2.2.2, .int f4899_12, .int f4899_13])), ((κ w).2.2.2, .inr (6, [.int (nI f4894_0), .int f4894_1, .int f4894_2, .null, .ref f4894_4, .ref f4894_5, .ref f4894_6, .ref f4894_7]))] _ := va_P.cons hat4899 hP
                refine va_get (D := D) (ci := 5) (v := .ref (κ w).2.2.2) (C := RX5) (T := TX5) (N := 14) hx hb hts iX5_readStatement_5 hown hN.1 hP 0 rfl rfl 11 (by decide) (hts _ mX5_readStatement_1) (fun _ h9 => h9) rfl dX5_readStatement_110 ?_
                have hb0 : B0 ≤ _ := hT.b0 hw (by decide)
                have hB : Bx B0 D _ [(w, .inr (5, [.ref f4899_0, .int (nI ((κ w).2.2.1)), .int (nI f4899_2), .int (nI f4899_3), .int f4899_4, .int (nI f4899_5), .int f4899_6, .int f4899_7, .int f4899_8, .ref f4899_9, .int (nI f4899_10), .ref (κ w).2.2.2, .int f4899_12, .int f4899_13])), ((κ w).2.2.2, .inr (6, [.int (nI f4894_0), .int f4894_1, .int f4894_2, .null, .ref f4894_4, .ref f4894_5, .ref f4894_6, .ref f4894_7]))] [] _ _ := Bx.of (fun a => (κ a).1) hL hP (fa_c hb4899 (fa_c hb4894 fa_n)) (by simp only [List.map_cons, List.map_nil, hw.1, hsu.1]; decide)
                refine nw_o (ci := 0) (fs := [.null, .null]) (C := RX0) (T := TX0) (N := 2) hx hb hts iX5_readStatement_0 tyX0 tyX0_ok hown (hts _ mX5_readStatement_2) (hts _ mX5_readStatement_3) (hts _ mX5_readStatement_4) hN rfl dfl0 (show 0 + 1 ≤ 3 by omega) (show 0 + 2 ≤ 618 by omega) dX5_readStatement_113 (fun q4900 H heq4900 hzq4900 hoq4900 hatq4900 => ?_)
                have hgeq4900 : _ ≤ q4900 := Nat.le_trans hB.2.2.1 (Nat.le_of_eq heq4900.symm)
                have hbq4900 : B0 ≤ q4900 := Nat.le_trans hb0 hgeq4900
                have hfq4900 : (κ q4900).1 = 0 := hT.fresh hgeq4900
                have hB := hB.nw heq4900 hzq4900 hoq4900 hatq4900 hb0
                have hB : Bx B0 D _ [(w, .inr (5, [.ref f4899_0, .int (nI ((κ w).2.2.1)), .int (nI f4899_2), .int (nI f4899_3), .int f4899_4, .int (nI f4899_5), .int f4899_6, .int f4899_7, .int f4899_8, .ref f4899_9, .int (nI f4899_10), .ref (κ w).2.2.2, .int f4899_12, .int f4899_13])), ((κ w).2.2.2, .inr (6, [.int (nI f4894_0), .int f4894_1, .int f4894_2, .null, .ref f4894_4, .ref f4894_5, .ref f4894_6, .ref f4894_7])), (q4900, .inr (0, [.null, .null]))] [] _ _ := hB
                refine lv_dup hx hb dX5_readStatement_116 rfl ?_
                refine lv_aload_n hx hb dX5_readStatement_117 rfl (lv_at hl 0 rfl) ?_
                refine va_get (D := D) (ci := 5) (v := .ref f4899_9) (C := RX5) (T := TX5) (N := 14) hx hb hts iX5_readStatement_5 hown hN.1 hB.1 0 rfl rfl 9 (by decide) (hts _ mX5_readStatement_5) (fun _ h9 => h9) rfl dX5_readStatement_118 ?_
                refine lv_aload_n hx hb dX5_readStatement_121 rfl (lv_at hl 0 rfl) ?_
                refine va_get (D := D) (ci := 5) (v := .int (nI f4899_10)) (C := RX5) (T := TX5) (N := 14) hx hb hts iX5_readStatement_5 hown hN.1 hB.1 0 rfl rfl 10 (by decide) (hts _ mX5_readStatement_6) (fun _ h9 => h9) rfl dX5_readStatement_122 ?_
                have hT : WT B0 D cs T κ _ := hT.close hB trivial
                have hF : Fr B0 [10, 11] κ H0 _ := hF.close hB fa_n
                have hL : OkL B0 _ := hB.2.2.2.2.2
                have hP : va_P D vwCl [(w, .inr (5, [.ref f4899_0, .int (nI ((κ w).2.2.1)), .int (nI f4899_2), .int (nI f4899_3), .int f4899_4, .int (nI f4899_5), .int f4899_6, .int f4899_7, .int f4899_8, .ref f4899_9, .int (nI f4899_10), .ref (κ w).2.2.2, .int f4899_12, .int f4899_13])), ((κ w).2.2.2, .inr (6, [.int (nI f4894_0), .int f4894_1, .int f4894_2, .null, .ref f4894_4, .ref f4894_5, .ref f4894_6, .ref f4894_7])), (q4900, .inr (0, [.null, .null]))] _ := hB.1
                refine ci_v (As := [.ref f4899_9, .int (nI f4899_10)]) (rest := [.ref q4900, .ref (κ w).2.2.2]) (b := q4900) ⟨hx, hb, hml, hown, hts⟩ (c_X0_init hT (w := q4900) hfq4900 hbq4900 (hP 2 _ rfl) (v := f4899_9) t4899_9 (n := f4899_10) (by first | omega | decide | assumption)) (cwI 2 hts gX5_readStatement_X0_init rfl rfl rfl (hts _ mX5_readStatement_4) (hts _ mX5_readStatement_156) (hts _ mX5_readStatement_157) rfl hdX0_init_o ⟨Nat.le_of_ble_eq_true rfl, Nat.le_of_ble_eq_true rfl⟩) hN hE hL rfl rfl hl.1 (Nat.le_of_ble_eq_true rfl) dX5_readStatement_125 (show 1 + 2 ≤ 3 by omega) (show (0 + 2) + 616 ≤ 618 by omega) (fun H1 locs hL hqr4901 => ?_)
                obtain ⟨κr4901, hxr4901, hT1, hF1, hqr4901⟩ := hqr4901
                have hF := hF.tr (hF1.mono (by simp))
                have hT := hT1
                have hKF : KF κ κr4901 := hxr4901.f
                have hKX : KX κ κr4901 := hxr4901
                have hw := (hxr4901.f.t2 hw (by decide))
                have hsu := (hxr4901.f.t2 hsu (by decide))
                have hq4900 := hqr4901
                obtain ⟨hb4902, e4902, hat4902, hk4902⟩ := hT.o7 hsu.1
                obtain ⟨f4902_0, f4902_1, f4902_2, f4902_3, f4902_4, f4902_5, f4902_6, f4902_7, rfl, c4902_0, c4902_3, c4902_mg, t4902_4, t4902_5, t4902_6, t4902_7⟩ := hk4902
                rw [hsu.2] at t4902_4
                rw [hsu.2] at t4902_5
                rw [hsu.2] at t4902_6
                rw [hsu.2] at t4902_7
                have hP : va_P D vwCl [((κ w).2.2.2, .inr (6, [.int (nI f4902_0), .int f4902_1, .int f4902_2, f4902_3, .ref f4902_4, .ref f4902_5, .ref f4902_6, .ref f4902_7]))] _ := va_P.cons hat4902 va_P.nil
                have hB : Bx B0 D _ [((κ w).2.2.2, .inr (6, [.int (nI f4902_0), .int f4902_1, .int f4902_2, f4902_3, .ref f4902_4, .ref f4902_5, .ref f4902_6, .ref f4902_7]))] [] _ _ := Bx.of (fun a => (κr4901 a).1) hL hP (fa_c hb4902 fa_n) (by simp only [List.map_cons, List.map_nil, hsu.1]; decide)
                refine b_putN (D := D) (ci := 6) (v := .ref q4900) (ty := .object "OneBeat$Formula") (C := RX6) (T := TX6) (N := 8) hx hb hts iX5_readStatement_6 tyX6 tyX6_ok nmX6 hown hN hB 0 rfl rfl 3 (by decide) (hN.f 44 rfl) (fun _ h9 => h9) rfl (by decide +kernel) rfl rfl (Nat.le_of_ble_eq_true rfl) (.inl rfl) dX5_readStatement_128 (fun H locs hB => ?_)
                have hB : Bx B0 D _ [((κ w).2.2.2, .inr (6, [.int (nI f4902_0), .int f4902_1, .int f4902_2, .ref q4900, .ref f4902_4, .ref f4902_5, .ref f4902_6, .ref f4902_7]))] [(κ w).2.2.2] _ _ := hB
                refine lv_iconst (v := 1) hx hb dX5_readStatement_131 (by decide) ?_
                have hF : Fr B0 [10, 11] κ H0 _ := hF.closeN hB (fa_c (fun h9 => by rw [← (hKF _ h9).2, hsu.2]; simp) fa_n)
                have hT : WT B0 D cs T (kp κr4901 (κ w).2.2.2 1 0) _ := hT.closeK (κ w).2.2.2 1 0 hB (by rw [hsu.1]; decide) (by rw [hsu.1]; decide) (List.mem_of_getElem? (i := 0) rfl) ⟨⟨0, _, rfl, kp_ok (ok_7 (k := ((κr4901 (κ w).2.2.2).1, (κr4901 (κ w).2.2.2).2.1, _, _)) hsu.1 ⟨_, _, _, _, _, _, _, _, rfl, (by omega), (Or.inr ⟨_, rfl, (t2kp hq4900)⟩), (Or.inr ⟨_, rfl⟩), ⟨(t2kp t4902_4).1, by rw [hsu.2]; exact (t2kp t4902_4).2⟩, ⟨(t2kp t4902_5).1, by rw [hsu.2]; exact (t2kp t4902_5).2⟩, ⟨(t2kp t4902_6).1, by rw [hsu.2]; exact (t2kp t4902_6).2⟩, ⟨(t2kp t4902_7).1, by rw [hsu.2]; exact (t2kp t4902_7).2⟩⟩)⟩, trivial⟩
                have hL : OkL B0 _ := hB.2.2.2.2.2
                have hsu := t2kp (x := 1) (y := 0) (a := (κ w).2.2.2) hsu
                refine W.know (fun hg => ?_)
                rw [hH0] at hg
                exact en_i hx hb hr hlocks hL rfl (show 3 ≤ 3 by omega) (show ((0 + 2) + 616) ≤ 618 by omega) dX5_readStatement_132 (⟨_, (fun a h1 h2 => (kp_n h2).trans (hKX a h1)), hT, hF, hsu, Or.inr ⟨hmg1, by rw [kp_a], hg.mono (by omega) (by omega)⟩, Or.inr rfl⟩)
            · refine va_getN (D := D) (ci := 6) (v := .ref a4895) (C := RX6) (T := TX6) (N := 8) hx hb hts iX5_readStatement_6 hown hN.1 hP 0 rfl rfl 3 (by decide) (hN.f 44 rfl) (fun _ h9 => h9) rfl dX5_readStatement_89 ?_
              refine lv_ifnonnull (tgt := 133) hx hb dX5_readStatement_92 (by decide) ?_
              refine lv_aload_n hx hb dX5_readStatement_133 rfl (lv_at hl 0 rfl) ?_
              refine lv_bipush (v := (-2)) hx hb dX5_readStatement_134 (by decide) ?_
              refine lv_aload_n hx hb dX5_readStatement_136 rfl (lv_at hl 0 rfl) ?_
              refine va_get (D := D) (ci := 5) (v := .int (nI f4893_5)) (C := RX5) (T := TX5) (N := 14) hx hb hts iX5_readStatement_5 hown hN.1 hP 1 rfl rfl 5 (by decide) (hts _ mX5_readStatement_7) (fun _ h9 => h9) rfl dX5_readStatement_137 ?_
              refine cv_i (As := [.int (-2), .int (nI f4893_5)]) (rest := []) (b := w) ⟨hx, hb, hml, hown, hts⟩ (c_X5_fail hT (w := w) hw (x := (-2)) (y := (nI f4893_5))) (cwV 2 hts gX5_readStatement_X5_fail rfl rfl rfl hdX5_fail_v ⟨Nat.le_of_ble_eq_true rfl, Nat.le_of_ble_eq_true rfl⟩) hN hE hL (rcv6 hN hT hw.1) rfl rfl hl.1 (Nat.le_of_ble_eq_true rfl) dX5_readStatement_140 (Nat.zero_le _) (Nat.zero_le _) (fun r4903 H1 locs hL hqr4903 => ?_)
              obtain ⟨hT1, hF1, hqr4903⟩ := hqr4903
              have hP : va_P D vwCl [((κ w).2.2.2, .inr (6, [.int (nI f4894_0), .int f4894_1, .int f4894_2, .ref a4895, .ref f4894_4, .ref f4894_5, .ref f4894_6, .ref f4894_7]))] _ := hF1.hP (hP.sub [0] rfl) (fa_c ⟨by rw [hsu.1]; decide, by rw [hsu.2]; first | decide | (simp; done) | (simp; omega)⟩ fa_n)
              have hF := hF.tr (hF1.mono (by simp))
              have hT := hT1
              obtain rfl := hqr4903
              refine W.know (fun hg => ?_)
              rw [hH0] at hg
              exact en_i hx hb hr hlocks hL rfl (Nat.zero_le _) (Nat.zero_le _) dX5_readStatement_143 (⟨_, (fun _ _ _ => rfl), hT, hF, hsu, Or.inl ⟨rfl, hg⟩, Or.inl rfl⟩)
        · refine lv_if_eq (tgt := 76) hx hb dX5_readStatement_58 (by decide) (fun c9 => absurd c9 (by decide)) (fun _ => ?_)
          refine lv_aload_n hx hb dX5_readStatement_61 rfl (lv_at hl 0 rfl) ?_
          obtain ⟨hb4904, e4904, hat4904, hk4904⟩ := hT.o6 hw.1
          obtain ⟨f4904_0, f4904_2, f4904_3, f4904_4, f4904_5, f4904_6, f4904_7, f4904_8, f4904_9, f4904_10, f4904_11, f4904_12, f4904_13, rfl, c4904_1, c4904_2, c4904_3, c4904_5, c4904_10, t4904_0, t4904_9, c4904_11, c4904_p2⟩ := hk4904
          obtain rfl : f4904_11 = .ref (κ w).2.2.2 := c4904_p2.resolve_left hs0
          have hP : va_P D vwCl [(w, .inr (5, [.ref f4904_0, .int (nI ((κ w).2.2.1)), .int (nI f4904_2), .int (nI f4904_3), .int f4904_4, .int (nI f4904_5), .int f4904_6, .int f4904_7, .int f4904_8, .ref f4904_9, .int (nI f4904_10), .ref (κ w).2.2.2, .int f4904_12, .int f4904_13]))] _ := va_P.cons hat4904 va_P.nil
          refine va_get (D := D) (ci := 5) (v := .ref (κ w).2.2.2) (C := RX5) (T := TX5) (N := 14) hx hb hts iX5_readStatement_5 hown hN.1 hP 0 rfl rfl 11 (by decide) (hts _ mX5_readStatement_1) (fun _ h9 => h9) rfl dX5_readStatement_62 ?_
          obtain ⟨hb4905, e4905, hat4905, hk4905⟩ := hT.o7 hsu.1
          obtain ⟨f4905_0, f4905_1, f4905_2, f4905_3, f4905_4, f4905_5, f4905_6, f4905_7, rfl, c4905_0, c4905_3, c4905_mg, t4905_4, t4905_5, t4905_6, t4905_7⟩ := hk4905
          rw [hsu.2] at t4905_4
          rw [hsu.2] at t4905_5
          rw [hsu.2] at t4905_6
          rw [hsu.2] at t4905_7
          have hP : va_P D vwCl [((κ w).2.2.2, .inr (6, [.int (nI f4905_0), .int f4905_1, .int f4905_2, f4905_3, .ref f4905_4, .ref f4905_5, .ref f4905_6, .ref f4905_7])), (w, .inr (5, [.ref f4904_0, .int (nI ((κ w).2.2.1)), .int (nI f4904_2), .int (nI f4904_3), .int f4904_4, .int (nI f4904_5), .int f4904_6, .int f4904_7, .int f4904_8, .ref f4904_9, .int (nI f4904_10), .ref (κ w).2.2.2, .int f4904_12, .int f4904_13]))] _ := va_P.cons hat4905 hP
          refine va_getN (D := D) (ci := 6) (v := .int f4905_2) (C := RX6) (T := TX6) (N := 8) hx hb hts iX5_readStatement_6 hown hN.1 hP 0 rfl rfl 2 (by decide) (hN.f 42 rfl) (fun _ h9 => h9) rfl dX5_readStatement_65 ?_
          refine lv_if_ne (tgt := 76) hx hb dX5_readStatement_68 (by decide) (fun c4906 => ?_) (fun c4906 => ?_)
          · refine lv_aload_n hx hb dX5_readStatement_76 rfl (lv_at hl 0 rfl) ?_
            refine va_ldcS hx hb hown (hN.s 6 rfl) dX5_readStatement_77 ?_
            refine cv_i (As := [.ref (cs 106)]) (rest := []) (b := w) ⟨hx, hb, hml, hown, hts⟩ (c_X5_isWord hT (w := w) hw (i := 6) (by decide)) (cwV 1 hts gX5_readStatement_X5_isWord rfl rfl rfl hdX5_isWord_v ⟨Nat.le_of_ble_eq_true rfl, Nat.le_of_ble_eq_true rfl⟩) hN hE hL (rcv6 hN hT hw.1) rfl rfl hl.1 (Nat.le_of_ble_eq_true rfl) dX5_readStatement_79 (Nat.zero_le _) (Nat.zero_le _) (fun r4907 H1 locs hL hqr4907 => ?_)
            obtain ⟨h9, hqr4907⟩ := hqr4907; replace h9 := h9.symm; subst h9
            rcases hqr4907 with rfl | rfl
            · refine lv_if_eq (tgt := 133) hx hb dX5_readStatement_82 (by decide) (fun _ => ?_) (fun c9 => absurd (by decide) c9)
              refine lv_aload_n hx hb dX5_readStatement_133 rfl (lv_at hl 0 rfl) ?_
              refine lv_bipush (v := (-2)) hx hb dX5_readStatement_134 (by decide) ?_
              refine lv_aload_n hx hb dX5_readStatement_136 rfl (lv_at hl 0 rfl) ?_
              refine va_get (D := D) (ci := 5) (v := .int (nI f4904_5)) (C := RX5) (T := TX5) (N := 14) hx hb hts iX5_readStatement_5 hown hN.1 hP 1 rfl rfl 5 (by decide) (hts _ mX5_readStatement_7) (fun _ h9 => h9) rfl dX5_readStatement_137 ?_
              refine cv_i (As := [.int (-2), .int (nI f4904_5)]) (rest := []) (b := w) ⟨hx, hb, hml, hown, hts⟩ (c_X5_fail hT (w := w) hw (x := (-2)) (y := (nI f4904_5))) (cwV 2 hts gX5_readStatement_X5_fail rfl rfl rfl hdX5_fail_v ⟨Nat.le_of_ble_eq_true rfl, Nat.le_of_ble_eq_true rfl⟩) hN hE hL (rcv6 hN hT hw.1) rfl rfl hl.1 (Nat.le_of_ble_eq_true rfl) dX5_readStatement_140 (Nat.zero_le _) (Nat.zero_le _) (fun r4908 H1 locs hL hqr4908 => ?_)
              obtain ⟨hT1, hF1, hqr4908⟩ := hqr4908
              have hP : va_P D vwCl [((κ w).2.2.2, .inr (6, [.int (nI f4905_0), .int f4905_1, .int f4905_2, f4905_3, .ref f4905_4, .ref f4905_5, .ref f4905_6, .ref f4905_7]))] _ := hF1.hP (hP.sub [0] rfl) (fa_c ⟨by rw [hsu.1]; decide, by rw [hsu.2]; first | decide | (simp; done) | (simp; omega)⟩ fa_n)
              have hF := hF.tr (hF1.mono (by simp))
              have hT := hT1
              obtain rfl := hqr4908
              refine W.know (fun hg => ?_)
              rw [hH0] at hg
              exact en_i hx hb hr hlocks hL rfl (Nat.zero_le _) (Nat.zero_le _) dX5_readStatement_143 (⟨_, (fun _ _ _ => rfl), hT, hF, hsu, Or.inl ⟨rfl, hg⟩, Or.inl rfl⟩)
            · refine lv_if_eq (tgt := 133) hx hb dX5_readStatement_82 (by decide) (fun c9 => absurd c9 (by decide)) (fun _ => ?_)
              refine lv_aload_n hx hb dX5_readStatement_85 rfl (lv_at hl 0 rfl) ?_
              refine va_get (D := D) (ci := 5) (v := .ref (κ w).2.2.2) (C := RX5) (T := TX5) (N := 14) hx hb hts iX5_readStatement_5 hown hN.1 hP 1 rfl rfl 11 (by decide) (hts _ mX5_readStatement_1) (fun _ h9 => h9) rfl dX5_readStatement_86 ?_
              rcases c4905_3 with rfl | ⟨a4909, rfl, ta4909⟩
              · refine va_getN (D := D) (ci := 6) (v := .null) (C := RX6) (T := TX6) (N := 8) hx hb hts iX5_readStatement_6 hown hN.1 hP 0 rfl rfl 3 (by decide) (hN.f 44 rfl) (fun _ h9 => h9) rfl dX5_readStatement_89 ?_
                refine lv_ifnonnullN hx hb dX5_readStatement_92 ?_
                have hmg1 : (κ (κ w).2.2.2).2.2.1 ≠ 1 := (c4905_mg).resolve_right (by rintro ⟨_, h9⟩; cases h9)
                refine lv_aload_n hx hb dX5_readStatement_95 rfl (lv_at hl 0 rfl) ?_
                refine cv_v (As := []) (rest := []) (b := w) ⟨hx, hb, hml, hown, hts⟩ (c_X5_step hT (w := w) hw) (cwV 0 hts gX5_readStatement_X5_step rfl rfl rfl hdX5_step_v ⟨Nat.le_of_ble_eq_true rfl, Nat.le_of_ble_eq_true rfl⟩) hN hE hL (rcv6 hN hT hw.1) rfl rfl hl.1 (Nat.le_of_ble_eq_true rfl) dX5_readStatement_96 (Nat.zero_le _) (Nat.zero_le _) (fun H1 locs hL hqr4910 => ?_)
                obtain ⟨hT1, hF1, hqr4910⟩ := hqr4910
                have hP : va_P D vwCl [((κ w).2.2.2, .inr (6, [.int (nI f4905_0), .int f4905_1, .int f4905_2, .null, .ref f4905_4, .ref f4905_5, .ref f4905_6, .ref f4905_7]))] _ := hF1.hP (hP.sub [0] rfl) (fa_c ⟨by rw [hsu.1]; decide, by rw [hsu.2]; first | decide | (simp; done) | (simp; omega)⟩ fa_n)
                have hF := hF.tr (hF1.mono (by simp))
                have hT := hT1
                have f4911 := hqr4910
                refine lv_aload_n hx hb dX5_readStatement_99 rfl (lv_at hl 0 rfl) ?_
                refine lv_iconst (v := 0) hx hb dX5_readStatement_100 (by decide) ?_
                refine cv_i (As := [.int 0]) (rest := []) (b := w) ⟨hx, hb, hml, hown, hts⟩ (c_X5_readSum_d0 hT (w := w) hw) (cwV 1 hts gX5_readStatement_X5_readSum rfl rfl rfl hdX5_readSum_v ⟨Nat.le_of_ble_eq_true rfl, Nat.le_of_ble_eq_true rfl⟩) hN hE hL (rcv6 hN hT hw.1) rfl rfl hl.1 (Nat.le_of_ble_eq_true rfl) dX5_readStatement_101 (Nat.zero_le _) (Nat.zero_le _) (fun r4912 H1 locs hL hqr4912 => ?_)
                obtain ⟨hT1, hF1, hqr4912⟩ := hqr4912
                have hP : va_P D vwCl [((κ w).2.2.2, .inr (6, [.int (nI f4905_0), .int f4905_1, .int f4905_2, .null, .ref f4905_4, .ref f4905_5, .ref f4905_6, .ref f4905_7]))] _ := hF1.hP (hP.sub [0] rfl) (fa_c ⟨by rw [hsu.1]; decide, by rw [hsu.2]; first | decide | (simp; done) | (simp; omega)⟩ fa_n)
                have hF := hF.tr (hF1.mono (by simp))
                have hT := hT1
                rcases hqr4912 with rfl | rfl
                · refine lv_if_ne (tgt := 109) hx hb dX5_readStatement_104 (by decide) (fun c9 => absurd (by decide) c9) (fun _ => ?_)
                  refine lv_iconst (v := 0) hx hb dX5_readStatement_107 (by decide) ?_
                  refine W.know (fun hg => ?_)
                  rw [hH0] at hg
                  exact en_i hx hb hr hlocks hL rfl (Nat.zero_le _) (Nat.zero_le _) dX5_readStatement_108 (⟨_, (fun _ _ _ => rfl), hT, hF, hsu, Or.inl ⟨rfl, hg⟩, Or.inl rfl⟩)
                · refine lv_if_ne (tgt := 109) hx hb dX5_readStatement_104 (by decide) (fun _ => ?_) (fun c9 => absurd c9 (by decide))
                  refine lv_aload_n hx hb dX5_readStatement_109 rfl (lv_at hl 0 rfl) ?_
                  obtain ⟨hb4913, e4913, hat4913, hk4913⟩ := hT.o6 hw.1
                  obtain ⟨f4913_0, f4913_2, f4913_3, f4913_4, f4913_5, f4913_6, f4913_7, f4913_8, f4913_9, f4913_10, f4913_11, f4913_12, f4913_13, rfl, c4913_1, c4913_2, c4913_3, c4913_5, c4913_10, t4913_0, t4913_9, c4913_11, c4913_p2⟩ := hk4913
                  obtain rfl : f4913_11 = .ref (κ w).2.2.2 := c4913_p2.resolve_left hs0
                  have hP : va_P D vwCl [(w, .inr (5, [.ref f4913_0, .int (nI ((κ w).2.2.1)), .int (nI f4913_2), .int (nI f4913_3), .int f4913_4, .int (nI f4913_5), .int f4913_6, .int f4913_7, .int f4913_8, .ref f4913_9, .int (nI f4913_10), .ref (κ w).2.2.2, .int f4913_12, .int f4913_13])), ((κ w).2.2.2, .inr (6, [.int (nI f4905_0), .int f4905_1, .int f4905_2, .null, .ref f4905_4, .ref f4905_5, .ref f4905_6, .ref f4905_7]))] _ := va_P.cons hat4913 hP
                  refine va_get (D := D) (ci := 5) (v := .ref (κ w).2.2.2) (C := RX5) (T := TX5) (N := 14) hx hb hts iX5_readStatement_5 hown hN.1 hP 0 rfl rfl 11 (by decide) (hts _ mX5_readStatement_1) (fun _ h9 => h9) rfl dX5_readStatement_110 ?_
                  have hb0 : B0 ≤ _ := hT.b0 hw (by decide)
                  have hB : Bx B0 D _ [(w, .inr (5, [.ref f4913_0, .int (nI ((κ w).2.2.1)), .int (nI f4913_2), .int (nI f4913_3), .int f4913_4, .int (nI f4913_5), .int f4913_6, .int f4913_7, .int f4913_8, .ref f4913_9, .int (nI f4913_10), .ref (κ w).2.2.2, .int f4913_12, .int f4913_13])), ((κ w).2.2.2, .inr (6, [.int (nI f4905_0), .int f4905_1, .int f4905_2, .null, .ref f4905_4, .ref f4905_5, .ref f4905_6, .ref f4905_7]))] [] _ _ := Bx.of (fun a => (κ a).1) hL hP (fa_c hb4913 (fa_c hb4905 fa_n)) (by simp only [List.map_cons, List.map_nil, hw.1, hsu.1]; decide)
                  refine nw_o (ci := 0) (fs := [.null, .null]) (C := RX0) (T := TX0) (N := 2) hx hb hts iX5_readStatement_0 tyX0 tyX0_ok hown (hts _ mX5_readStatement_2) (hts _ mX5_readStatement_3) (hts _ mX5_readStatement_4) hN rfl dfl0 (show 0 + 1 ≤ 3 by omega) (show 0 + 2 ≤ 618 by omega) dX5_readStatement_113 (fun q4914 H heq4914 hzq4914 hoq4914 hatq4914 => ?_)
                  have hgeq4914 : _ ≤ q4914 := Nat.le_trans hB.2.2.1 (Nat.le_of_eq heq4914.symm)
                  have hbq4914 : B0 ≤ q4914 := Nat.le_trans hb0 hgeq4914
                  have hfq4914 : (κ q4914).1 = 0 := hT.fresh hgeq4914
                  have hB := hB.nw heq4914 hzq4914 hoq4914 hatq4914 hb0
                  have hB : Bx B0 D _ [(w, .inr (5, [.ref f4913_0, .int (nI ((κ w).2.2.1)), .int (nI f4913_2), .int (nI f4913_3), .int f4913_4, .int (nI f4913_5), .int f4913_6, .int f4913_7, .int f4913_8, .ref f4913_9, .int (nI f4913_10), .ref (κ w).2.2.2, .int f4913_12, .int f4913_13])), ((κ w).2.2.2, .inr (6, [.int (nI f4905_0), .int f4905_1, .int f4905_2, .null, .ref f4905_4, .ref f4905_5, .ref f4905_6, .ref f4905_7])), (q4914, .inr (0, [.null, .null]))] [] _ _ := hB
                  refine lv_dup hx hb dX5_readStatement_116 rfl ?_
                  refine lv_aload_n hx hb dX5_readStatement_117 rfl (lv_at hl 0 rfl) ?_
                  refine va_get (D := D) (ci := 5) (v := .ref f4913_9) (C := RX5) (T := TX5) (N := 14) hx hb hts iX5_readStatement_5 hown hN.1 hB.1 0 rfl rfl 9 (by decide) (hts _ mX5_readStatement_5) (fun _ h9 => h9) rfl dX5_readStatement_118 ?_
                  refine lv_aload_n hx hb dX5_readStatement_121 rfl (lv_at hl 0 rfl) ?_
                  refine va_get (D := D) (ci := 5) (v := .int (nI f4913_10)) (C := RX5) (T := TX5) (N := 14) hx hb hts iX5_readStatement_5 hown hN.1 hB.1 0 rfl rfl 10 (by decide) (hts _ mX5_readStatement_6) (fun _ h9 => h9) rfl dX5_readStatement_122 ?_
                  have hT : WT B0 D cs T κ _ := hT.close hB trivial
                  have hF : Fr B0 [10, 11] κ H0 _ := hF.close hB fa_n
                  have hL : OkL B0 _ := hB.2.2.2.2.2
                  have hP : va_P D vwCl [(w, .inr (5, [.ref f4913_0, .int (nI ((κ w).2.2.1)), .int (nI f4913_2), .int (nI f4913_3), .int f4913_4, .int (nI f4913_5), .int f4913_6, .int f4913_7, .int f4913_8, .ref f4913_9, .int (nI f4913_10), .ref (κ w).2.2.2, .int f4913_12, .int f4913_13])), ((κ w).2.2.2, .inr (6, [.int (nI f4905_0), .int f4905_1, .int f4905_2, .null, .ref f4905_4, .ref f4905_5, .ref f4905_6, .ref f4905_7])), (q4914, .inr (0, [.null, .null]))] _ := hB.1
                  refine ci_v (As := [.ref f4913_9, .int (nI f4913_10)]) (rest := [.ref q4914, .ref (κ w).2.2.2]) (b := q4914) ⟨hx, hb, hml, hown, hts⟩ (c_X0_init hT (w := q4914) hfq4914 hbq4914 (hP 2 _ rfl) (v := f4913_9) t4913_9 (n := f4913_10) (by first | omega | decide | assumption)) (cwI 2 hts gX5_readStatement_X0_init rfl rfl rfl (hts _ mX5_readStatement_4) (hts _ mX5_readStatement_156) (hts _ mX5_readStatement_157) rfl hdX0_init_o ⟨Nat.le_of_ble_eq_true rfl, Nat.le_of_ble_eq_true rfl⟩) hN hE hL rfl rfl hl.1 (Nat.le_of_ble_eq_true rfl) dX5_readStatement_125 (show 1 + 2 ≤ 3 by omega) (show (0 + 2) + 616 ≤ 618 by omega) (fun H1 locs hL hqr4915 => ?_)
                  obtain ⟨κr4915, hxr4915, hT1, hF1, hqr4915⟩ := hqr4915
                  have hF := hF.tr (hF1.mono (by simp))
                  have hT := hT1
                  have hKF : KF κ κr4915 := hxr4915.f
                  have hKX : KX κ κr4915 := hxr4915
                  have hw := (hxr4915.f.t2 hw (by decide))
                  have hsu := (hxr4915.f.t2 hsu (by decide))
                  have hq4914 := hqr4915
                  obtain ⟨hb4916, e4916, hat4916, hk4916⟩ := hT.o7 hsu.1
                  obtain ⟨f4916_0, f4916_1, f4916_2, f4916_3, f4916_4, f4916_5, f4916_6, f4916_7, rfl, c4916_0, c4916_3, c4916_mg, t4916_4, t4916_5, t4916_6, t4916_7⟩ := hk4916
                  rw [hsu.2] at t4916_4
                  rw [hsu.2] at t4916_5
                  rw [hsu.2] at t4916_6
                  rw [hsu.2] at t4916_7
                  have hP : va_P D vwCl [((κ w).2.2.2, .inr (6, [.int (nI f4916_0), .int f4916_1, .int f4916_2, f4916_3, .ref f4916_4, .ref f4916_5, .ref f4916_6, .ref f4916_7]))] _ := va_P.cons hat4916 va_P.nil
                  have hB : Bx B0 D _ [((κ w).2.2.2, .inr (6, [.int (nI f4916_0), .int f4916_1, .int f4916_2, f4916_3, .ref f4916_4, .ref f4916_5, .ref f4916_6, .ref f4916_7]))] [] _ _ := Bx.of (fun a => (κr4915 a).1) hL hP (fa_c hb4916 fa_n) (by simp only [List.map_cons, List.map_nil, hsu.1]; decide)
                  refine b_putN (D := D) (ci := 6) (v := .ref q4914) (ty := .object "OneBeat$Formula") (C := RX6) (T := TX6) (N := 8) hx hb hts iX5_readStatement_6 tyX6 tyX6_ok nmX6 hown hN hB 0 rfl rfl 3 (by decide) (hN.f 44 rfl) (fun _ h9 => h9) rfl (by decide +kernel) rfl rfl (Nat.le_of_ble_eq_true rfl) (.inl rfl) dX5_readStatement_128 (fun H locs hB => ?_)
                  have hB : Bx B0 D _ [((κ w).2.2.2, .inr (6, [.int (nI f4916_0), .int f4916_1, .int f4916_2, .ref q4914, .ref f4916_4, .ref f4916_5, .ref f4916_6, .ref f4916_7]))] [(κ w).2.2.2] _ _ := hB
                  refine lv_iconst (v := 1) hx hb dX5_readStatement_131 (by decide) ?_
                  have hF : Fr B0 [10, 11] κ H0 _ := hF.closeN hB (fa_c (fun h9 => by rw [← (hKF _ h9).2, hsu.2]; simp) fa_n)
                  have hT : WT B0 D cs T (kp κr4915 (κ w).2.2.2 1 0) _ := hT.closeK (κ w).2.2.2 1 0 hB (by rw [hsu.1]; decide) (by rw [hsu.1]; decide) (List.mem_of_getElem? (i := 0) rfl) ⟨⟨0, _, rfl, kp_ok (ok_7 (k := ((κr4915 (κ w).2.2.2).1, (κr4915 (κ w).2.2.2).2.1, _, _)) hsu.1 ⟨_, _, _, _, _, _, _, _, rfl, (by omega), (Or.inr ⟨_, rfl, (t2kp hq4914)⟩), (Or.inr ⟨_, rfl⟩), ⟨(t2kp t4916_4).1, by rw [hsu.2]; exact (t2kp t4916_4).2⟩, ⟨(t2kp t4916_5).1, by rw [hsu.2]; exact (t2kp t4916_5).2⟩, ⟨(t2kp t4916_6).1, by rw [hsu.2]; exact (t2kp t4916_6).2⟩, ⟨(t2kp t4916_7).1, by rw [hsu.2]; exact (t2kp t4916_7).2⟩⟩)⟩, trivial⟩
                  have hL : OkL B0 _ := hB.2.2.2.2.2
                  have hsu := t2kp (x := 1) (y := 0) (a := (κ w).2.2.2) hsu
                  refine W.know (fun hg => ?_)
                  rw [hH0] at hg
                  exact en_i hx hb hr hlocks hL rfl (show 3 ≤ 3 by omega) (show ((0 + 2) + 616) ≤ 618 by omega) dX5_readStatement_132 (⟨_, (fun a h1 h2 => (kp_n h2).trans (hKX a h1)), hT, hF, hsu, Or.inr ⟨hmg1, by rw [kp_a], hg.mono (by omega) (by omega)⟩, Or.inr rfl⟩)
              · refine va_getN (D := D) (ci := 6) (v := .ref a4909) (C := RX6) (T := TX6) (N := 8) hx hb hts iX5_readStatement_6 hown hN.1 hP 0 rfl rfl 3 (by decide) (hN.f 44 rfl) (fun _ h9 => h9) rfl dX5_readStatement_89 ?_
                refine lv_ifnonnull (tgt := 133) hx hb dX5_readStatement_92 (by decide) ?_
                refine lv_aload_n hx hb dX5_readStatement_133 rfl (lv_at hl 0 rfl) ?_
                refine lv_bipush (v := (-2)) hx hb dX5_readStatement_134 (by decide) ?_
                refine lv_aload_n hx hb dX5_readStatement_136 rfl (lv_at hl 0 rfl) ?_
                refine va_get (D := D) (ci := 5) (v := .int (nI f4904_5)) (C := RX5) (T := TX5) (N := 14) hx hb hts iX5_readStatement_5 hown hN.1 hP 1 rfl rfl 5 (by decide) (hts _ mX5_readStatement_7) (fun _ h9 => h9) rfl dX5_readStatement_137 ?_
                refine cv_i (As := [.int (-2), .int (nI f4904_5)]) (rest := []) (b := w) ⟨hx, hb, hml, hown, hts⟩ (c_X5_fail hT (w := w) hw (x := (-2)) (y := (nI f4904_5))) (cwV 2 hts gX5_readStatement_X5_fail rfl rfl rfl hdX5_fail_v ⟨Nat.le_of_ble_eq_true rfl, Nat.le_of_ble_eq_true rfl⟩) hN hE hL (rcv6 hN hT hw.1) rfl rfl hl.1 (Nat.le_of_ble_eq_true rfl) dX5_readStatement_140 (Nat.zero_le _) (Nat.zero_le _) (fun r4917 H1 locs hL hqr4917 => ?_)
                obtain ⟨hT1, hF1, hqr4917⟩ := hqr4917
                have hP : va_P D vwCl [((κ w).2.2.2, .inr (6, [.int (nI f4905_0), .int f4905_1, .int f4905_2, .ref a4909, .ref f4905_4, .ref f4905_5, .ref f4905_6, .ref f4905_7]))] _ := hF1.hP (hP.sub [0] rfl) (fa_c ⟨by rw [hsu.1]; decide, by rw [hsu.2]; first | decide | (simp; done) | (simp; omega)⟩ fa_n)
                have hF := hF.tr (hF1.mono (by simp))
                have hT := hT1
                obtain rfl := hqr4917
                refine W.know (fun hg => ?_)
                rw [hH0] at hg
                exact en_i hx hb hr hlocks hL rfl (Nat.zero_le _) (Nat.zero_le _) dX5_readStatement_143 (⟨_, (fun _ _ _ => rfl), hT, hF, hsu, Or.inl ⟨rfl, hg⟩, Or.inl rfl⟩)
          · refine lv_aload_n hx hb dX5_readStatement_71 rfl (lv_at hl 0 rfl) ?_
            refine cv_i (As := []) (rest := []) (b := w) ⟨hx, hb, hml, hown, hts⟩ (c_X5_readPatience hT (w := w) hw (by first | omega | decide | assumption) (by first | omega | decide | assumption)) (cwV 0 hts gX5_readStatement_X5_readPatience rfl rfl rfl hdX5_readPatience_v ⟨Nat.le_of_ble_eq_true rfl, Nat.le_of_ble_eq_true rfl⟩) hN hE hL (rcv6 hN hT hw.1) rfl rfl hl.1 (Nat.le_of_ble_eq_true rfl) dX5_readStatement_72 (Nat.zero_le _) (Nat.zero_le _) (fun r4918 H1 locs hL hqr4918 => ?_)
            obtain ⟨hT1, hF1, hqr4918⟩ := hqr4918
            have hF := hF.tr (hF1.mono (by simp))
            have hT := hT1
            rcases hqr4918 with rfl | rfl
            · refine W.know (fun hg => ?_)
              rw [hH0] at hg
              exact en_i hx hb hr hlocks hL rfl (Nat.zero_le _) (Nat.zero_le _) dX5_readStatement_75 (⟨_, (fun _ _ _ => rfl), hT, hF, hsu, Or.inl ⟨rfl, hg⟩, Or.inl rfl⟩)
            · refine W.know (fun hg => ?_)
              rw [hH0] at hg
              exact en_i hx hb hr hlocks hL rfl (Nat.zero_le _) (Nat.zero_le _) dX5_readStatement_75 (⟨_, (fun _ _ _ => rfl), hT, hF, hsu, Or.inl ⟨rfl, hg⟩, Or.inr rfl⟩)
      · refine lv_if_eq (tgt := 52) hx hb dX5_readStatement_34 (by decide) (fun c9 => absurd c9 (by decide)) (fun _ => ?_)
        refine lv_aload_n hx hb dX5_readStatement_37 rfl (lv_at hl 0 rfl) ?_
        obtain ⟨hb4919, e4919, hat4919, hk4919⟩ := hT.o6 hw.1
        obtain ⟨f4919_0, f4919_2, f4919_3, f4919_4, f4919_5, f4919_6, f4919_7, f4919_8, f4919_9, f4919_10, f4919_11, f4919_12, f4919_13, rfl, c4919_1, c4919_2, c4919_3, c4919_5, c4919_10, t4919_0, t4919_9, c4919_11, c4919_p2⟩ := hk4919
        obtain rfl : f4919_11 = .ref (κ w).2.2.2 := c4919_p2.resolve_left hs0
        have hP : va_P D vwCl [(w, .inr (5, [.ref f4919_0, .int (nI ((κ w).2.2.1)), .int (nI f4919_2), .int (nI f4919_3), .int f4919_4, .int (nI f4919_5), .int f4919_6, .int f4919_7, .int f4919_8, .ref f4919_9, .int (nI f4919_10), .ref (κ w).2.2.2, .int f4919_12, .int f4919_13]))] _ := va_P.cons hat4919 va_P.nil
        refine va_get (D := D) (ci := 5) (v := .ref (κ w).2.2.2) (C := RX5) (T := TX5) (N := 14) hx hb hts iX5_readStatement_5 hown hN.1 hP 0 rfl rfl 11 (by decide) (hts _ mX5_readStatement_1) (fun _ h9 => h9) rfl dX5_readStatement_38 ?_
        obtain ⟨hb4920, e4920, hat4920, hk4920⟩ := hT.o7 hsu.1
        obtain ⟨f4920_0, f4920_1, f4920_2, f4920_3, f4920_4, f4920_5, f4920_6, f4920_7, rfl, c4920_0, c4920_3, c4920_mg, t4920_4, t4920_5, t4920_6, t4920_7⟩ := hk4920
        rw [hsu.2] at t4920_4
        rw [hsu.2] at t4920_5
        rw [hsu.2] at t4920_6
        rw [hsu.2] at t4920_7
        have hP : va_P D vwCl [((κ w).2.2.2, .inr (6, [.int (nI f4920_0), .int f4920_1, .int f4920_2, f4920_3, .ref f4920_4, .ref f4920_5, .ref f4920_6, .ref f4920_7])), (w, .inr (5, [.ref f4919_0, .int (nI ((κ w).2.2.1)), .int (nI f4919_2), .int (nI f4919_3), .int f4919_4, .int (nI f4919_5), .int f4919_6, .int f4919_7, .int f4919_8, .ref f4919_9, .int (nI f4919_10), .ref (κ w).2.2.2, .int f4919_12, .int f4919_13]))] _ := va_P.cons hat4920 hP
        refine va_getN (D := D) (ci := 6) (v := .int f4920_1) (C := RX6) (T := TX6) (N := 8) hx hb hts iX5_readStatement_6 hown hN.1 hP 0 rfl rfl 1 (by decide) (hN.f 40 rfl) (fun _ h9 => h9) rfl dX5_readStatement_41 ?_
        refine lv_if_ne (tgt := 52) hx hb dX5_readStatement_44 (by decide) (fun c4921 => ?_) (fun c4921 => ?_)
        · refine lv_aload_n hx hb dX5_readStatement_52 rfl (lv_at hl 0 rfl) ?_
          refine va_ldcS hx hb hown (hN.s 5 rfl) dX5_readStatement_53 ?_
          refine cv_i (As := [.ref (cs 105)]) (rest := []) (b := w) ⟨hx, hb, hml, hown, hts⟩ (c_X5_isWord hT (w := w) hw (i := 5) (by decide)) (cwV 1 hts gX5_readStatement_X5_isWord rfl rfl rfl hdX5_isWord_v ⟨Nat.le_of_ble_eq_true rfl, Nat.le_of_ble_eq_true rfl⟩) hN hE hL (rcv6 hN hT hw.1) rfl rfl hl.1 (Nat.le_of_ble_eq_true rfl) dX5_readStatement_55 (Nat.zero_le _) (Nat.zero_le _) (fun r4922 H1 locs hL hqr4922 => ?_)
          obtain ⟨h9, hqr4922⟩ := hqr4922; replace h9 := h9.symm; subst h9
          rcases hqr4922 with rfl | rfl
          · refine lv_if_eq (tgt := 76) hx hb dX5_readStatement_58 (by decide) (fun _ => ?_) (fun c9 => absurd (by decide) c9)
            refine lv_aload_n hx hb dX5_readStatement_76 rfl (lv_at hl 0 rfl) ?_
            refine va_ldcS hx hb hown (hN.s 6 rfl) dX5_readStatement_77 ?_
            refine cv_i (As := [.ref (cs 106)]) (rest := []) (b := w) ⟨hx, hb, hml, hown, hts⟩ (c_X5_isWord hT (w := w) hw (i := 6) (by decide)) (cwV 1 hts gX5_readStatement_X5_isWord rfl rfl rfl hdX5_isWord_v ⟨Nat.le_of_ble_eq_true rfl, Nat.le_of_ble_eq_true rfl⟩) hN hE hL (rcv6 hN hT hw.1) rfl rfl hl.1 (Nat.le_of_ble_eq_true rfl) dX5_readStatement_79 (Nat.zero_le _) (Nat.zero_le _) (fun r4923 H1 locs hL hqr4923 => ?_)
            obtain ⟨h9, hqr4923⟩ := hqr4923; replace h9 := h9.symm; subst h9
            rcases hqr4923 with rfl | rfl
            · refine lv_if_eq (tgt := 133) hx hb dX5_readStatement_82 (by decide) (fun _ => ?_) (fun c9 => absurd (by decide) c9)
              refine lv_aload_n hx hb dX5_readStatement_133 rfl (lv_at hl 0 rfl) ?_
              refine lv_bipush (v := (-2)) hx hb dX5_readStatement_134 (by decide) ?_
              refine lv_aload_n hx hb dX5_readStatement_136 rfl (lv_at hl 0 rfl) ?_
              refine va_get (D := D) (ci := 5) (v := .int (nI f4919_5)) (C := RX5) (T := TX5) (N := 14) hx hb hts iX5_readStatement_5 hown hN.1 hP 1 rfl rfl 5 (by decide) (hts _ mX5_readStatement_7) (fun _ h9 => h9) rfl dX5_readStatement_137 ?_
              refine cv_i (As := [.int (-2), .int (nI f4919_5)]) (rest := []) (b := w) ⟨hx, hb, hml, hown, hts⟩ (c_X5_fail hT (w := w) hw (x := (-2)) (y := (nI f4919_5))) (cwV 2 hts gX5_readStatement_X5_fail rfl rfl rfl hdX5_fail_v ⟨Nat.le_of_ble_eq_true rfl, Nat.le_of_ble_eq_true rfl⟩) hN hE hL (rcv6 hN hT hw.1) rfl rfl hl.1 (Nat.le_of_ble_eq_true rfl) dX5_readStatement_140 (Nat.zero_le _) (Nat.zero_le _) (fun r4924 H1 locs hL hqr4924 => ?_)
              obtain ⟨hT1, hF1, hqr4924⟩ := hqr4924
              have hP : va_P D vwCl [((κ w).2.2.2, .inr (6, [.int (nI f4920_0), .int f4920_1, .int f4920_2, f4920_3, .ref f4920_4, .ref f4920_5, .ref f4920_6, .ref f4920_7]))] _ := hF1.hP (hP.sub [0] rfl) (fa_c ⟨by rw [hsu.1]; decide, by rw [hsu.2]; first | decide | (simp; done) | (simp; omega)⟩ fa_n)
              have hF := hF.tr (hF1.mono (by simp))
              have hT := hT1
              obtain rfl := hqr4924
              refine W.know (fun hg => ?_)
              rw [hH0] at hg
              exact en_i hx hb hr hlocks hL rfl (Nat.zero_le _) (Nat.zero_le _) dX5_readStatement_143 (⟨_, (fun _ _ _ => rfl), hT, hF, hsu, Or.inl ⟨rfl, hg⟩, Or.inl rfl⟩)
            · refine lv_if_eq (tgt := 133) hx hb dX5_readStatement_82 (by decide) (fun c9 => absurd c9 (by decide)) (fun _ => ?_)
              refine lv_aload_n hx hb dX5_readStatement_85 rfl (lv_at hl 0 rfl) ?_
              refine va_get (D := D) (ci := 5) (v := .ref (κ w).2.2.2) (C := RX5) (T := TX5) (N := 14) hx hb hts iX5_readStatement_5 hown hN.1 hP 1 rfl rfl 11 (by decide) (hts _ mX5_readStatement_1) (fun _ h9 => h9) rfl dX5_readStatement_86 ?_
              rcases c4920_3 with rfl | ⟨a4925, rfl, ta4925⟩
              · refine va_getN (D := D) (ci := 6) (v := .null) (C := RX6) (T := TX6) (N := 8) hx hb hts iX5_readStatement_6 hown hN.1 hP 0 rfl rfl 3 (by decide) (hN.f 44 rfl) (fun _ h9 => h9) rfl dX5_readStatement_89 ?_
                refine lv_ifnonnullN hx hb dX5_readStatement_92 ?_
                have hmg1 : (κ (κ w).2.2.2).2.2.1 ≠ 1 := (c4920_mg).resolve_right (by rintro ⟨_, h9⟩; cases h9)
                refine lv_aload_n hx hb dX5_readStatement_95 rfl (lv_at hl 0 rfl) ?_
                refine cv_v (As := []) (rest := []) (b := w) ⟨hx, hb, hml, hown, hts⟩ (c_X5_step hT (w := w) hw) (cwV 0 hts gX5_readStatement_X5_step rfl rfl rfl hdX5_step_v ⟨Nat.le_of_ble_eq_true rfl, Nat.le_of_ble_eq_true rfl⟩) hN hE hL (rcv6 hN hT hw.1) rfl rfl hl.1 (Nat.le_of_ble_eq_true rfl) dX5_readStatement_96 (Nat.zero_le _) (Nat.zero_le _) (fun H1 locs hL hqr4926 => ?_)
                obtain ⟨hT1, hF1, hqr4926⟩ := hqr4926
                have hP : va_P D vwCl [((κ w).2.2.2, .inr (6, [.int (nI f4920_0), .int f4920_1, .int f4920_2, .null, .ref f4920_4, .ref f4920_5, .ref f4920_6, .ref f4920_7]))] _ := hF1.hP (hP.sub [0] rfl) (fa_c ⟨by rw [hsu.1]; decide, by rw [hsu.2]; first | decide | (simp; done) | (simp; omega)⟩ fa_n)
                have hF := hF.tr (hF1.mono (by simp))
                have hT := hT1
                have f4927 := hqr4926
                refine lv_aload_n hx hb dX5_readStatement_99 rfl (lv_at hl 0 rfl) ?_
                refine lv_iconst (v := 0) hx hb dX5_readStatement_100 (by decide) ?_
                refine cv_i (As := [.int 0]) (rest := []) (b := w) ⟨hx, hb, hml, hown, hts⟩ (c_X5_readSum_d0 hT (w := w) hw) (cwV 1 hts gX5_readStatement_X5_readSum rfl rfl rfl hdX5_readSum_v ⟨Nat.le_of_ble_eq_true rfl, Nat.le_of_ble_eq_true rfl⟩) hN hE hL (rcv6 hN hT hw.1) rfl rfl hl.1 (Nat.le_of_ble_eq_true rfl) dX5_readStatement_101 (Nat.zero_le _) (Nat.zero_le _) (fun r4928 H1 locs hL hqr4928 => ?_)
                obtain ⟨hT1, hF1, hqr4928⟩ := hqr4928
                have hP : va_P D vwCl [((κ w).2.2.2, .inr (6, [.int (nI f4920_0), .int f4920_1, .int f4920_2, .null, .ref f4920_4, .ref f4920_5, .ref f4920_6, .ref f4920_7]))] _ := hF1.hP (hP.sub [0] rfl) (fa_c ⟨by rw [hsu.1]; decide, by rw [hsu.2]; first | decide | (simp; done) | (simp; omega)⟩ fa_n)
                have hF := hF.tr (hF1.mono (by simp))
                have hT := hT1
                rcases hqr4928 with rfl | rfl
                · refine lv_if_ne (tgt := 109) hx hb dX5_readStatement_104 (by decide) (fun c9 => absurd (by decide) c9) (fun _ => ?_)
                  refine lv_iconst (v := 0) hx hb dX5_readStatement_107 (by decide) ?_
                  refine W.know (fun hg => ?_)
                  rw [hH0] at hg
                  exact en_i hx hb hr hlocks hL rfl (Nat.zero_le _) (Nat.zero_le _) dX5_readStatement_108 (⟨_, (fun _ _ _ => rfl), hT, hF, hsu, Or.inl ⟨rfl, hg⟩, Or.inl rfl⟩)
                · refine lv_if_ne (tgt := 109) hx hb dX5_readStatement_104 (by decide) (fun _ => ?_) (fun c9 => absurd c9 (by decide))
                  refine lv_aload_n hx hb dX5_readStatement_109 rfl (lv_at hl 0 rfl) ?_
                  obtain ⟨hb4929, e4929, hat4929, hk4929⟩ := hT.o6 hw.1
                  obtain ⟨f4929_0, f4929_2, f4929_3, f4929_4, f4929_5, f4929_6, f4929_7, f4929_8, f4929_9, f4929_10, f4929_11, f4929_12, f4929_13, rfl, c4929_1, c4929_2, c4929_3, c4929_5, c4929_10, t4929_0, t4929_9, c4929_11, c4929_p2⟩ := hk4929
                  obtain rfl : f4929_11 = .ref (κ w).2.2.2 := c4929_p2.resolve_left hs0
                  have hP : va_P D vwCl [(w, .inr (5, [.ref f4929_0, .int (nI ((κ w).2.2.1)), .int (nI f4929_2), .int (nI f4929_3), .int f4929_4, .int (nI f4929_5), .int f4929_6, .int f4929_7, .int f4929_8, .ref f4929_9, .int (nI f4929_10), .ref (κ w).2.2.2, .int f4929_12, .int f4929_13])), ((κ w).2.2.2, .inr (6, [.int (nI f4920_0), .int f4920_1, .int f4920_2, .null, .ref f4920_4, .ref f4920_5, .ref f4920_6, .ref f4920_7]))] _ := va_P.cons hat4929 hP
                  refine va_get (D := D) (ci := 5) (v := .ref (κ w).2.2.2) (C := RX5) (T := TX5) (N := 14) hx hb hts iX5_readStatement_5 hown hN.1 hP 0 rfl rfl 11 (by decide) (hts _ mX5_readStatement_1) (fun _ h9 => h9) rfl dX5_readStatement_110 ?_
                  have hb0 : B0 ≤ _ := hT.b0 hw (by decide)
                  have hB : Bx B0 D _ [(w, .inr (5, [.ref f4929_0, .int (nI ((κ w).2.2.1)), .int (nI f4929_2), .int (nI f4929_3), .int f4929_4, .int (nI f4929_5), .int f4929_6, .int f4929_7, .int f4929_8, .ref f4929_9, .int (nI f4929_10), .ref (κ w).2.2.2, .int f4929_12, .int f4929_13])), ((κ w).2.2.2, .inr (6, [.int (nI f4920_0), .int f4920_1, .int f4920_2, .null, .ref f4920_4, .ref f4920_5, .ref f4920_6, .ref f4920_7]))] [] _ _ := Bx.of (fun a => (κ a).1) hL hP (fa_c hb4929 (fa_c hb4920 fa_n)) (by simp only [List.map_cons, List.map_nil, hw.1, hsu.1]; decide)
                  refine nw_o (ci := 0) (fs := [.null, .null]) (C := RX0) (T := TX0) (N := 2) hx hb hts iX5_readStatement_0 tyX0 tyX0_ok hown (hts _ mX5_readStatement_2) (hts _ mX5_readStatement_3) (hts _ mX5_readStatement_4) hN rfl dfl0 (show 0 + 1 ≤ 3 by omega) (show 0 + 2 ≤ 618 by omega) dX5_readStatement_113 (fun q4930 H heq4930 hzq4930 hoq4930 hatq4930 => ?_)
                  have hgeq4930 : _ ≤ q4930 := Nat.le_trans hB.2.2.1 (Nat.le_of_eq heq4930.symm)
                  have hbq4930 : B0 ≤ q4930 := Nat.le_trans hb0 hgeq4930
                  have hfq4930 : (κ q4930).1 = 0 := hT.fresh hgeq4930
                  have hB := hB.nw heq4930 hzq4930 hoq4930 hatq4930 hb0
                  have hB : Bx B0 D _ [(w, .inr (5, [.ref f4929_0, .int (nI ((κ w).2.2.1)), .int (nI f4929_2), .int (nI f4929_3), .int f4929_4, .int (nI f4929_5), .int f4929_6, .int f4929_7, .int f4929_8, .ref f4929_9, .int (nI f4929_10), .ref (κ w).2.2.2, .int f4929_12, .int f4929_13])), ((κ w).2.2.2, .inr (6, [.int (nI f4920_0), .int f4920_1, .int f4920_2, .null, .ref f4920_4, .ref f4920_5, .ref f4920_6, .ref f4920_7])), (q4930, .inr (0, [.null, .null]))] [] _ _ := hB
                  refine lv_dup hx hb dX5_readStatement_116 rfl ?_
                  refine lv_aload_n hx hb dX5_readStatement_117 rfl (lv_at hl 0 rfl) ?_
                  refine va_get (D := D) (ci := 5) (v := .ref f4929_9) (C := RX5) (T := TX5) (N := 14) hx hb hts iX5_readStatement_5 hown hN.1 hB.1 0 rfl rfl 9 (by decide) (hts _ mX5_readStatement_5) (fun _ h9 => h9) rfl dX5_readStatement_118 ?_
                  refine lv_aload_n hx hb dX5_readStatement_121 rfl (lv_at hl 0 rfl) ?_
                  refine va_get (D := D) (ci := 5) (v := .int (nI f4929_10)) (C := RX5) (T := TX5) (N := 14) hx hb hts iX5_readStatement_5 hown hN.1 hB.1 0 rfl rfl 10 (by decide) (hts _ mX5_readStatement_6) (fun _ h9 => h9) rfl dX5_readStatement_122 ?_
                  have hT : WT B0 D cs T κ _ := hT.close hB trivial
                  have hF : Fr B0 [10, 11] κ H0 _ := hF.close hB fa_n
                  have hL : OkL B0 _ := hB.2.2.2.2.2
                  have hP : va_P D vwCl [(w, .inr (5, [.ref f4929_0, .int (nI ((κ w).2.2.1)), .int (nI f4929_2), .int (nI f4929_3), .int f4929_4, .int (nI f4929_5), .int f4929_6, .int f4929_7, .int f4929_8, .ref f4929_9, .int (nI f4929_10), .ref (κ w).2.2.2, .int f4929_12, .int f4929_13])), ((κ w).2.2.2, .inr (6, [.int (nI f4920_0), .int f4920_1, .int f4920_2, .null, .ref f4920_4, .ref f4920_5, .ref f4920_6, .ref f4920_7])), (q4930, .inr (0, [.null, .null]))] _ := hB.1
                  refine ci_v (As := [.ref f4929_9, .int (nI f4929_10)]) (rest := [.ref q4930, .ref (κ w).2.2.2]) (b := q4930) ⟨hx, hb, hml, hown, hts⟩ (c_X0_init hT (w := q4930) hfq4930 hbq4930 (hP 2 _ rfl) (v := f4929_9) t4929_9 (n := f4929_10) (by first | omega | decide | assumption)) (cwI 2 hts gX5_readStatement_X0_init rfl rfl rfl (hts _ mX5_readStatement_4) (hts _ mX5_readStatement_156) (hts _ mX5_readStatement_157) rfl hdX0_init_o ⟨Nat.le_of_ble_eq_true rfl, Nat.le_of_ble_eq_true rfl⟩) hN hE hL rfl rfl hl.1 (Nat.le_of_ble_eq_true rfl) dX5_readStatement_125 (show 1 + 2 ≤ 3 by omega) (show (0 + 2) + 616 ≤ 618 by omega) (fun H1 locs hL hqr4931 => ?_)
                  obtain ⟨κr4931, hxr4931, hT1, hF1, hqr4931⟩ := hqr4931
                  have hF := hF.tr (hF1.mono (by simp))
                  have hT := hT1
                  have hKF : KF κ κr4931 := hxr4931.f
                  have hKX : KX κ κr4931 := hxr4931
                  have hw := (hxr4931.f.t2 hw (by decide))
                  have hsu := (hxr4931.f.t2 hsu (by decide))
                  have hq4930 := hqr4931
                  obtain ⟨hb4932, e4932, hat4932, hk4932⟩ := hT.o7 hsu.1
                  obtain ⟨f4932_0, f4932_1, f4932_2, f4932_3, f4932_4, f4932_5, f4932_6, f4932_7, rfl, c4932_0, c4932_3, c4932_mg, t4932_4, t4932_5, t4932_6, t4932_7⟩ := hk4932
                  rw [hsu.2] at t4932_4
                  rw [hsu.2] at t4932_5
                  rw [hsu.2] at t4932_6
                  rw [hsu.2] at t4932_7
                  have hP : va_P D vwCl [((κ w).2.2.2, .inr (6, [.int (nI f4932_0), .int f4932_1, .int f4932_2, f4932_3, .ref f4932_4, .ref f4932_5, .ref f4932_6, .ref f4932_7]))] _ := va_P.cons hat4932 va_P.nil
                  have hB : Bx B0 D _ [((κ w).2.2.2, .inr (6, [.int (nI f4932_0), .int f4932_1, .int f4932_2, f4932_3, .ref f4932_4, .ref f4932_5, .ref f4932_6, .ref f4932_7]))] [] _ _ := Bx.of (fun a => (κr4931 a).1) hL hP (fa_c hb4932 fa_n) (by simp only [List.map_cons, List.map_nil, hsu.1]; decide)
                  refine b_putN (D := D) (ci := 6) (v := .ref q4930) (ty := .object "OneBeat$Formula") (C := RX6) (T := TX6) (N := 8) hx hb hts iX5_readStatement_6 tyX6 tyX6_ok nmX6 hown hN hB 0 rfl rfl 3 (by decide) (hN.f 44 rfl) (fun _ h9 => h9) rfl (by decide +kernel) rfl rfl (Nat.le_of_ble_eq_true rfl) (.inl rfl) dX5_readStatement_128 (fun H locs hB => ?_)
                  have hB : Bx B0 D _ [((κ w).2.2.2, .inr (6, [.int (nI f4932_0), .int f4932_1, .int f4932_2, .ref q4930, .ref f4932_4, .ref f4932_5, .ref f4932_6, .ref f4932_7]))] [(κ w).2.2.2] _ _ := hB
                  refine lv_iconst (v := 1) hx hb dX5_readStatement_131 (by decide) ?_
                  have hF : Fr B0 [10, 11] κ H0 _ := hF.closeN hB (fa_c (fun h9 => by rw [← (hKF _ h9).2, hsu.2]; simp) fa_n)
                  have hT : WT B0 D cs T (kp κr4931 (κ w).2.2.2 1 0) _ := hT.closeK (κ w).2.2.2 1 0 hB (by rw [hsu.1]; decide) (by rw [hsu.1]; decide) (List.mem_of_getElem? (i := 0) rfl) ⟨⟨0, _, rfl, kp_ok (ok_7 (k := ((κr4931 (κ w).2.2.2).1, (κr4931 (κ w).2.2.2).2.1, _, _)) hsu.1 ⟨_, _, _, _, _, _, _, _, rfl, (by omega), (Or.inr ⟨_, rfl, (t2kp hq4930)⟩), (Or.inr ⟨_, rfl⟩), ⟨(t2kp t4932_4).1, by rw [hsu.2]; exact (t2kp t4932_4).2⟩, ⟨(t2kp t4932_5).1, by rw [hsu.2]; exact (t2kp t4932_5).2⟩, ⟨(t2kp t4932_6).1, by rw [hsu.2]; exact (t2kp t4932_6).2⟩, ⟨(t2kp t4932_7).1, by rw [hsu.2]; exact (t2kp t4932_7).2⟩⟩)⟩, trivial⟩
                  have hL : OkL B0 _ := hB.2.2.2.2.2
                  have hsu := t2kp (x := 1) (y := 0) (a := (κ w).2.2.2) hsu
                  refine W.know (fun hg => ?_)
                  rw [hH0] at hg
                  exact en_i hx hb hr hlocks hL rfl (show 3 ≤ 3 by omega) (show ((0 + 2) + 616) ≤ 618 by omega) dX5_readStatement_132 (⟨_, (fun a h1 h2 => (kp_n h2).trans (hKX a h1)), hT, hF, hsu, Or.inr ⟨hmg1, by rw [kp_a], hg.mono (by omega) (by omega)⟩, Or.inr rfl⟩)
              · refine va_getN (D := D) (ci := 6) (v := .ref a4925) (C := RX6) (T := TX6) (N := 8) hx hb hts iX5_readStatement_6 hown hN.1 hP 0 rfl rfl 3 (by decide) (hN.f 44 rfl) (fun _ h9 => h9) rfl dX5_readStatement_89 ?_
                refine lv_ifnonnull (tgt := 133) hx hb dX5_readStatement_92 (by decide) ?_
                refine lv_aload_n hx hb dX5_readStatement_133 rfl (lv_at hl 0 rfl) ?_
                refine lv_bipush (v := (-2)) hx hb dX5_readStatement_134 (by decide) ?_
                refine lv_aload_n hx hb dX5_readStatement_136 rfl (lv_at hl 0 rfl) ?_
                refine va_get (D := D) (ci := 5) (v := .int (nI f4919_5)) (C := RX5) (T := TX5) (N := 14) hx hb hts iX5_readStatement_5 hown hN.1 hP 1 rfl rfl 5 (by decide) (hts _ mX5_readStatement_7) (fun _ h9 => h9) rfl dX5_readStatement_137 ?_
                refine cv_i (As := [.int (-2), .int (nI f4919_5)]) (rest := []) (b := w) ⟨hx, hb, hml, hown, hts⟩ (c_X5_fail hT (w := w) hw (x := (-2)) (y := (nI f4919_5))) (cwV 2 hts gX5_readStatement_X5_fail rfl rfl rfl hdX5_fail_v ⟨Nat.le_of_ble_eq_true rfl, Nat.le_of_ble_eq_true rfl⟩) hN hE hL (rcv6 hN hT hw.1) rfl rfl hl.1 (Nat.le_of_ble_eq_true rfl) dX5_readStatement_140 (Nat.zero_le _) (Nat.zero_le _) (fun r4933 H1 locs hL hqr4933 => ?_)
                obtain ⟨hT1, hF1, hqr4933⟩ := hqr4933
                have hP : va_P D vwCl [((κ w).2.2.2, .inr (6, [.int (nI f4920_0), .int f4920_1, .int f4920_2, .ref a4925, .ref f4920_4, .ref f4920_5, .ref f4920_6, .ref f4920_7]))] _ := hF1.hP (hP.sub [0] rfl) (fa_c ⟨by rw [hsu.1]; decide, by rw [hsu.2]; first | decide | (simp; done) | (simp; omega)⟩ fa_n)
                have hF := hF.tr (hF1.mono (by simp))
                have hT := hT1
                obtain rfl := hqr4933
                refine W.know (fun hg => ?_)
                rw [hH0] at hg
                exact en_i hx hb hr hlocks hL rfl (Nat.zero_le _) (Nat.zero_le _) dX5_readStatement_143 (⟨_, (fun _ _ _ => rfl), hT, hF, hsu, Or.inl ⟨rfl, hg⟩, Or.inl rfl⟩)
          · refine lv_if_eq (tgt := 76) hx hb dX5_readStatement_58 (by decide) (fun c9 => absurd c9 (by decide)) (fun _ => ?_)
            refine lv_aload_n hx hb dX5_readStatement_61 rfl (lv_at hl 0 rfl) ?_
            refine va_get (D := D) (ci := 5) (v := .ref (κ w).2.2.2) (C := RX5) (T := TX5) (N := 14) hx hb hts iX5_readStatement_5 hown hN.1 hP 1 rfl rfl 11 (by decide) (hts _ mX5_readStatement_1) (fun _ h9 => h9) rfl dX5_readStatement_62 ?_
            refine va_getN (D := D) (ci := 6) (v := .int f4920_2) (C := RX6) (T := TX6) (N := 8) hx hb hts iX5_readStatement_6 hown hN.1 hP 0 rfl rfl 2 (by decide) (hN.f 42 rfl) (fun _ h9 => h9) rfl dX5_readStatement_65 ?_
            refine lv_if_ne (tgt := 76) hx hb dX5_readStatement_68 (by decide) (fun c4934 => ?_) (fun c4934 => ?_)
            · refine lv_aload_n hx hb dX5_readStatement_76 rfl (lv_at hl 0 rfl) ?_
              refine va_ldcS hx hb hown (hN.s 6 rfl) dX5_readStatement_77 ?_
              refine cv_i (As := [.ref (cs 106)]) (rest := []) (b := w) ⟨hx, hb, hml, hown, hts⟩ (c_X5_isWord hT (w := w) hw (i := 6) (by decide)) (cwV 1 hts gX5_readStatement_X5_isWord rfl rfl rfl hdX5_isWord_v ⟨Nat.le_of_ble_eq_true rfl, Nat.le_of_ble_eq_true rfl⟩) hN hE hL (rcv6 hN hT hw.1) rfl rfl hl.1 (Nat.le_of_ble_eq_true rfl) dX5_readStatement_79 (Nat.zero_le _) (Nat.zero_le _) (fun r4935 H1 locs hL hqr4935 => ?_)
              obtain ⟨h9, hqr4935⟩ := hqr4935; replace h9 := h9.symm; subst h9
              rcases hqr4935 with rfl | rfl
              · refine lv_if_eq (tgt := 133) hx hb dX5_readStatement_82 (by decide) (fun _ => ?_) (fun c9 => absurd (by decide) c9)
                refine lv_aload_n hx hb dX5_readStatement_133 rfl (lv_at hl 0 rfl) ?_
                refine lv_bipush (v := (-2)) hx hb dX5_readStatement_134 (by decide) ?_
                refine lv_aload_n hx hb dX5_readStatement_136 rfl (lv_at hl 0 rfl) ?_
                refine va_get (D := D) (ci := 5) (v := .int (nI f4919_5)) (C := RX5) (T := TX5) (N := 14) hx hb hts iX5_readStatement_5 hown hN.1 hP 1 rfl rfl 5 (by decide) (hts _ mX5_readStatement_7) (fun _ h9 => h9) rfl dX5_readStatement_137 ?_
                refine cv_i (As := [.int (-2), .int (nI f4919_5)]) (rest := []) (b := w) ⟨hx, hb, hml, hown, hts⟩ (c_X5_fail hT (w := w) hw (x := (-2)) (y := (nI f4919_5))) (cwV 2 hts gX5_readStatement_X5_fail rfl rfl rfl hdX5_fail_v ⟨Nat.le_of_ble_eq_true rfl, Nat.le_of_ble_eq_true rfl⟩) hN hE hL (rcv6 hN hT hw.1) rfl rfl hl.1 (Nat.le_of_ble_eq_true rfl) dX5_readStatement_140 (Nat.zero_le _) (Nat.zero_le _) (fun r4936 H1 locs hL hqr4936 => ?_)
                obtain ⟨hT1, hF1, hqr4936⟩ := hqr4936
                have hP : va_P D vwCl [((κ w).2.2.2, .inr (6, [.int (nI f4920_0), .int f4920_1, .int f4920_2, f4920_3, .ref f4920_4, .ref f4920_5, .ref f4920_6, .ref f4920_7]))] _ := hF1.hP (hP.sub [0] rfl) (fa_c ⟨by rw [hsu.1]; decide, by rw [hsu.2]; first | decide | (simp; done) | (simp; omega)⟩ fa_n)
                have hF := hF.tr (hF1.mono (by simp))
                have hT := hT1
                obtain rfl := hqr4936
                refine W.know (fun hg => ?_)
                rw [hH0] at hg
                exact en_i hx hb hr hlocks hL rfl (Nat.zero_le _) (Nat.zero_le _) dX5_readStatement_143 (⟨_, (fun _ _ _ => rfl), hT, hF, hsu, Or.inl ⟨rfl, hg⟩, Or.inl rfl⟩)
              · refine lv_if_eq (tgt := 133) hx hb dX5_readStatement_82 (by decide) (fun c9 => absurd c9 (by decide)) (fun _ => ?_)
                refine lv_aload_n hx hb dX5_readStatement_85 rfl (lv_at hl 0 rfl) ?_
                refine va_get (D := D) (ci := 5) (v := .ref (κ w).2.2.2) (C := RX5) (T := TX5) (N := 14) hx hb hts iX5_readStatement_5 hown hN.1 hP 1 rfl rfl 11 (by decide) (hts _ mX5_readStatement_1) (fun _ h9 => h9) rfl dX5_readStatement_86 ?_
                rcases c4920_3 with rfl | ⟨a4937, rfl, ta4937⟩
                · refine va_getN (D := D) (ci := 6) (v := .null) (C := RX6) (T := TX6) (N := 8) hx hb hts iX5_readStatement_6 hown hN.1 hP 0 rfl rfl 3 (by decide) (hN.f 44 rfl) (fun _ h9 => h9) rfl dX5_readStatement_89 ?_
                  refine lv_ifnonnullN hx hb dX5_readStatement_92 ?_
                  have hmg1 : (κ (κ w).2.2.2).2.2.1 ≠ 1 := (c4920_mg).resolve_right (by rintro ⟨_, h9⟩; cases h9)
                  refine lv_aload_n hx hb dX5_readStatement_95 rfl (lv_at hl 0 rfl) ?_
                  refine cv_v (As := []) (rest := []) (b := w) ⟨hx, hb, hml, hown, hts⟩ (c_X5_step hT (w := w) hw) (cwV 0 hts gX5_readStatement_X5_step rfl rfl rfl hdX5_step_v ⟨Nat.le_of_ble_eq_true rfl, Nat.le_of_ble_eq_true rfl⟩) hN hE hL (rcv6 hN hT hw.1) rfl rfl hl.1 (Nat.le_of_ble_eq_true rfl) dX5_readStatement_96 (Nat.zero_le _) (Nat.zero_le _) (fun H1 locs hL hqr4938 => ?_)
                  obtain ⟨hT1, hF1, hqr4938⟩ := hqr4938
                  have hP : va_P D vwCl [((κ w).2.2.2, .inr (6, [.int (nI f4920_0), .int f4920_1, .int f4920_2, .null, .ref f4920_4, .ref f4920_5, .ref f4920_6, .ref f4920_7]))] _ := hF1.hP (hP.sub [0] rfl) (fa_c ⟨by rw [hsu.1]; decide, by rw [hsu.2]; first | decide | (simp; done) | (simp; omega)⟩ fa_n)
                  have hF := hF.tr (hF1.mono (by simp))
                  have hT := hT1
                  have f4939 := hqr4938
                  refine lv_aload_n hx hb dX5_readStatement_99 rfl (lv_at hl 0 rfl) ?_
                  refine lv_iconst (v := 0) hx hb dX5_readStatement_100 (by decide) ?_
                  refine cv_i (As := [.int 0]) (rest := []) (b := w) ⟨hx, hb, hml, hown, hts⟩ (c_X5_readSum_d0 hT (w := w) hw) (cwV 1 hts gX5_readStatement_X5_readSum rfl rfl rfl hdX5_readSum_v ⟨Nat.le_of_ble_eq_true rfl, Nat.le_of_ble_eq_true rfl⟩) hN hE hL (rcv6 hN hT hw.1) rfl rfl hl.1 (Nat.le_of_ble_eq_true rfl) dX5_readStatement_101 (Nat.zero_le _) (Nat.zero_le _) (fun r4940 H1 locs hL hqr4940 => ?_)
                  obtain ⟨hT1, hF1, hqr4940⟩ := hqr4940
                  have hP : va_P D vwCl [((κ w).2.2.2, .inr (6, [.int (nI f4920_0), .int f4920_1, .int f4920_2, .null, .ref f4920_4, .ref f4920_5, .ref f4920_6, .ref f4920_7]))] _ := hF1.hP (hP.sub [0] rfl) (fa_c ⟨by rw [hsu.1]; decide, by rw [hsu.2]; first | decide | (simp; done) | (simp; omega)⟩ fa_n)
                  have hF := hF.tr (hF1.mono (by simp))
                  have hT := hT1
                  rcases hqr4940 with rfl | rfl
                  · refine lv_if_ne (tgt := 109) hx hb dX5_readStatement_104 (by decide) (fun c9 => absurd (by decide) c9) (fun _ => ?_)
                    refine lv_iconst (v := 0) hx hb dX5_readStatement_107 (by decide) ?_
                    refine W.know (fun hg => ?_)
                    rw [hH0] at hg
                    exact en_i hx hb hr hlocks hL rfl (Nat.zero_le _) (Nat.zero_le _) dX5_readStatement_108 (⟨_, (fun _ _ _ => rfl), hT, hF, hsu, Or.inl ⟨rfl, hg⟩, Or.inl rfl⟩)
                  · refine lv_if_ne (tgt := 109) hx hb dX5_readStatement_104 (by decide) (fun _ => ?_) (fun c9 => absurd c9 (by decide))
                    refine lv_aload_n hx hb dX5_readStatement_109 rfl (lv_at hl 0 rfl) ?_
                    obtain ⟨hb4941, e4941, hat4941, hk4941⟩ := hT.o6 hw.1
                    obtain ⟨f4941_0, f4941_2, f4941_3, f4941_4, f4941_5, f4941_6, f4941_7, f4941_8, f4941_9, f4941_10, f4941_11, f4941_12, f4941_13, rfl, c4941_1, c4941_2, c4941_3, c4941_5, c4941_10, t4941_0, t4941_9, c4941_11, c4941_p2⟩ := hk4941
                    obtain rfl : f4941_11 = .ref (κ w).2.2.2 := c4941_p2.resolve_left hs0
                    have hP : va_P D vwCl [(w, .inr (5, [.ref f4941_0, .int (nI ((κ w).2.2.1)), .int (nI f4941_2), .int (nI f4941_3), .int f4941_4, .int (nI f4941_5), .int f4941_6, .int f4941_7, .int f4941_8, .ref f4941_9, .int (nI f4941_10), .ref (κ w).2.2.2, .int f4941_12, .int f4941_13])), ((κ w).2.2.2, .inr (6, [.int (nI f4920_0), .int f4920_1, .int f4920_2, .null, .ref f4920_4, .ref f4920_5, .ref f4920_6, .ref f4920_7]))] _ := va_P.cons hat4941 hP
                    refine va_get (D := D) (ci := 5) (v := .ref (κ w).2.2.2) (C := RX5) (T := TX5) (N := 14) hx hb hts iX5_readStatement_5 hown hN.1 hP 0 rfl rfl 11 (by decide) (hts _ mX5_readStatement_1) (fun _ h9 => h9) rfl dX5_readStatement_110 ?_
                    have hb0 : B0 ≤ _ := hT.b0 hw (by decide)
                    have hB : Bx B0 D _ [(w, .inr (5, [.ref f4941_0, .int (nI ((κ w).2.2.1)), .int (nI f4941_2), .int (nI f4941_3), .int f4941_4, .int (nI f4941_5), .int f4941_6, .int f4941_7, .int f4941_8, .ref f4941_9, .int (nI f4941_10), .ref (κ w).2.2.2, .int f4941_12, .int f4941_13])), ((κ w).2.2.2, .inr (6, [.int (nI f4920_0), .int f4920_1, .int f4920_2, .null, .ref f4920_4, .ref f4920_5, .ref f4920_6, .ref f4920_7]))] [] _ _ := Bx.of (fun a => (κ a).1) hL hP (fa_c hb4941 (fa_c hb4920 fa_n)) (by simp only [List.map_cons, List.map_nil, hw.1, hsu.1]; decide)
                    refine nw_o (ci := 0) (fs := [.null, .null]) (C := RX0) (T := TX0) (N := 2) hx hb hts iX5_readStatement_0 tyX0 tyX0_ok hown (hts _ mX5_readStatement_2) (hts _ mX5_readStatement_3) (hts _ mX5_readStatement_4) hN rfl dfl0 (show 0 + 1 ≤ 3 by omega) (show 0 + 2 ≤ 618 by omega) dX5_readStatement_113 (fun q4942 H heq4942 hzq4942 hoq4942 hatq4942 => ?_)
                    have hgeq4942 : _ ≤ q4942 := Nat.le_trans hB.2.2.1 (Nat.le_of_eq heq4942.symm)
                    have hbq4942 : B0 ≤ q4942 := Nat.le_trans hb0 hgeq4942
                    have hfq4942 : (κ q4942).1 = 0 := hT.fresh hgeq4942
                    have hB := hB.nw heq4942 hzq4942 hoq4942 hatq4942 hb0
                    have hB : Bx B0 D _ [(w, .inr (5, [.ref f4941_0, .int (nI ((κ w).2.2.1)), .int (nI f4941_2), .int (nI f4941_3), .int f4941_4, .int (nI f4941_5), .int f4941_6, .int f4941_7, .int f4941_8, .ref f4941_9, .int (nI f4941_10), .ref (κ w).2.2.2, .int f4941_12, .int f4941_13])), ((κ w).2.2.2, .inr (6, [.int (nI f4920_0), .int f4920_1, .int f4920_2, .null, .ref f4920_4, .ref f4920_5, .ref f4920_6, .ref f4920_7])), (q4942, .inr (0, [.null, .null]))] [] _ _ := hB
                    refine lv_dup hx hb dX5_readStatement_116 rfl ?_
                    refine lv_aload_n hx hb dX5_readStatement_117 rfl (lv_at hl 0 rfl) ?_
                    refine va_get (D := D) (ci := 5) (v := .ref f4941_9) (C := RX5) (T := TX5) (N := 14) hx hb hts iX5_readStatement_5 hown hN.1 hB.1 0 rfl rfl 9 (by decide) (hts _ mX5_readStatement_5) (fun _ h9 => h9) rfl dX5_readStatement_118 ?_
                    refine lv_aload_n hx hb dX5_readStatement_121 rfl (lv_at hl 0 rfl) ?_
                    refine va_get (D := D) (ci := 5) (v := .int (nI f4941_10)) (C := RX5) (T := TX5) (N := 14) hx hb hts iX5_readStatement_5 hown hN.1 hB.1 0 rfl rfl 10 (by decide) (hts _ mX5_readStatement_6) (fun _ h9 => h9) rfl dX5_readStatement_122 ?_
                    have hT : WT B0 D cs T κ _ := hT.close hB trivial
                    have hF : Fr B0 [10, 11] κ H0 _ := hF.close hB fa_n
                    have hL : OkL B0 _ := hB.2.2.2.2.2
                    have hP : va_P D vwCl [(w, .inr (5, [.ref f4941_0, .int (nI ((κ w).2.2.1)), .int (nI f4941_2), .int (nI f4941_3), .int f4941_4, .int (nI f4941_5), .int f4941_6, .int f4941_7, .int f4941_8, .ref f4941_9, .int (nI f4941_10), .ref (κ w).2.2.2, .int f4941_12, .int f4941_13])), ((κ w).2.2.2, .inr (6, [.int (nI f4920_0), .int f4920_1, .int f4920_2, .null, .ref f4920_4, .ref f4920_5, .ref f4920_6, .ref f4920_7])), (q4942, .inr (0, [.null, .null]))] _ := hB.1
                    refine ci_v (As := [.ref f4941_9, .int (nI f4941_10)]) (rest := [.ref q4942, .ref (κ w).2.2.2]) (b := q4942) ⟨hx, hb, hml, hown, hts⟩ (c_X0_init hT (w := q4942) hfq4942 hbq4942 (hP 2 _ rfl) (v := f4941_9) t4941_9 (n := f4941_10) (by first | omega | decide | assumption)) (cwI 2 hts gX5_readStatement_X0_init rfl rfl rfl (hts _ mX5_readStatement_4) (hts _ mX5_readStatement_156) (hts _ mX5_readStatement_157) rfl hdX0_init_o ⟨Nat.le_of_ble_eq_true rfl, Nat.le_of_ble_eq_true rfl⟩) hN hE hL rfl rfl hl.1 (Nat.le_of_ble_eq_true rfl) dX5_readStatement_125 (show 1 + 2 ≤ 3 by omega) (show (0 + 2) + 616 ≤ 618 by omega) (fun H1 locs hL hqr4943 => ?_)
                    obtain ⟨κr4943, hxr4943, hT1, hF1, hqr4943⟩ := hqr4943
                    have hF := hF.tr (hF1.mono (by simp))
                    have hT := hT1
                    have hKF : KF κ κr4943 := hxr4943.f
                    have hKX : KX κ κr4943 := hxr4943
                    have hw := (hxr4943.f.t2 hw (by decide))
                    have hsu := (hxr4943.f.t2 hsu (by decide))
                    have hq4942 := hqr4943
                    obtain ⟨hb4944, e4944, hat4944, hk4944⟩ := hT.o7 hsu.1
                    obtain ⟨f4944_0, f4944_1, f4944_2, f4944_3, f4944_4, f4944_5, f4944_6, f4944_7, rfl, c4944_0, c4944_3, c4944_mg, t4944_4, t4944_5, t4944_6, t4944_7⟩ := hk4944
                    rw [hsu.2] at t4944_4
                    rw [hsu.2] at t4944_5
                    rw [hsu.2] at t4944_6
                    rw [hsu.2] at t4944_7
                    have hP : va_P D vwCl [((κ w).2.2.2, .inr (6, [.int (nI f4944_0), .int f4944_1, .int f4944_2, f4944_3, .ref f4944_4, .ref f4944_5, .ref f4944_6, .ref f4944_7]))] _ := va_P.cons hat4944 va_P.nil
                    have hB : Bx B0 D _ [((κ w).2.2.2, .inr (6, [.int (nI f4944_0), .int f4944_1, .int f4944_2, f4944_3, .ref f4944_4, .ref f4944_5, .ref f4944_6, .ref f4944_7]))] [] _ _ := Bx.of (fun a => (κr4943 a).1) hL hP (fa_c hb4944 fa_n) (by simp only [List.map_cons, List.map_nil, hsu.1]; decide)
                    refine b_putN (D := D) (ci := 6) (v := .ref q4942) (ty := .object "OneBeat$Formula") (C := RX6) (T := TX6) (N := 8) hx hb hts iX5_readStatement_6 tyX6 tyX6_ok nmX6 hown hN hB 0 rfl rfl 3 (by decide) (hN.f 44 rfl) (fun _ h9 => h9) rfl (by decide +kernel) rfl rfl (Nat.le_of_ble_eq_true rfl) (.inl rfl) dX5_readStatement_128 (fun H locs hB => ?_)
                    have hB : Bx B0 D _ [((κ w).2.2.2, .inr (6, [.int (nI f4944_0), .int f4944_1, .int f4944_2, .ref q4942, .ref f4944_4, .ref f4944_5, .ref f4944_6, .ref f4944_7]))] [(κ w).2.2.2] _ _ := hB
                    refine lv_iconst (v := 1) hx hb dX5_readStatement_131 (by decide) ?_
                    have hF : Fr B0 [10, 11] κ H0 _ := hF.closeN hB (fa_c (fun h9 => by rw [← (hKF _ h9).2, hsu.2]; simp) fa_n)
                    have hT : WT B0 D cs T (kp κr4943 (κ w).2.2.2 1 0) _ := hT.closeK (κ w).2.2.2 1 0 hB (by rw [hsu.1]; decide) (by rw [hsu.1]; decide) (List.mem_of_getElem? (i := 0) rfl) ⟨⟨0, _, rfl, kp_ok (ok_7 (k := ((κr4943 (κ w).2.2.2).1, (κr4943 (κ w).2.2.2).2.1, _, _)) hsu.1 ⟨_, _, _, _, _, _, _, _, rfl, (by omega), (Or.inr ⟨_, rfl, (t2kp hq4942)⟩), (Or.inr ⟨_, rfl⟩), ⟨(t2kp t4944_4).1, by rw [hsu.2]; exact (t2kp t4944_4).2⟩, ⟨(t2kp t4944_5).1, by rw [hsu.2]; exact (t2kp t4944_5).2⟩, ⟨(t2kp t4944_6).1, by rw [hsu.2]; exact (t2kp t4944_6).2⟩, ⟨(t2kp t4944_7).1, by rw [hsu.2]; exact (t2kp t4944_7).2⟩⟩)⟩, trivial⟩
                    have hL : OkL B0 _ := hB.2.2.2.2.2
                    have hsu := t2kp (x := 1) (y := 0) (a := (κ w).2.2.2) hsu
                    refine W.know (fun hg => ?_)
                    rw [hH0] at hg
                    exact en_i hx hb hr hlocks hL rfl (show 3 ≤ 3 by omega) (show ((0 + 2) + 616) ≤ 618 by omega) dX5_readStatement_132 (⟨_, (fun a h1 h2 => (kp_n h2).trans (hKX a h1)), hT, hF, hsu, Or.inr ⟨hmg1, by rw [kp_a], hg.mono (by omega) (by omega)⟩, Or.inr rfl⟩)
                · refine va_getN (D := D) (ci := 6) (v := .ref a4937) (C := RX6) (T := TX6) (N := 8) hx hb hts iX5_readStatement_6 hown hN.1 hP 0 rfl rfl 3 (by decide) (hN.f 44 rfl) (fun _ h9 => h9) rfl dX5_readStatement_89 ?_
                  refine lv_ifnonnull (tgt := 133) hx hb dX5_readStatement_92 (by decide) ?_
                  refine lv_aload_n hx hb dX5_readStatement_133 rfl (lv_at hl 0 rfl) ?_
                  refine lv_bipush (v := (-2)) hx hb dX5_readStatement_134 (by decide) ?_
                  refine lv_aload_n hx hb dX5_readStatement_136 rfl (lv_at hl 0 rfl) ?_
                  refine va_get (D := D) (ci := 5) (v := .int (nI f4919_5)) (C := RX5) (T := TX5) (N := 14) hx hb hts iX5_readStatement_5 hown hN.1 hP 1 rfl rfl 5 (by decide) (hts _ mX5_readStatement_7) (fun _ h9 => h9) rfl dX5_readStatement_137 ?_
                  refine cv_i (As := [.int (-2), .int (nI f4919_5)]) (rest := []) (b := w) ⟨hx, hb, hml, hown, hts⟩ (c_X5_fail hT (w := w) hw (x := (-2)) (y := (nI f4919_5))) (cwV 2 hts gX5_readStatement_X5_fail rfl rfl rfl hdX5_fail_v ⟨Nat.le_of_ble_eq_true rfl, Nat.le_of_ble_eq_true rfl⟩) hN hE hL (rcv6 hN hT hw.1) rfl rfl hl.1 (Nat.le_of_ble_eq_true rfl) dX5_readStatement_140 (Nat.zero_le _) (Nat.zero_le _) (fun r4945 H1 locs hL hqr4945 => ?_)
                  obtain ⟨hT1, hF1, hqr4945⟩ := hqr4945
                  have hP : va_P D vwCl [((κ w).2.2.2, .inr (6, [.int (nI f4920_0), .int f4920_1, .int f4920_2, .ref a4937, .ref f4920_4, .ref f4920_5, .ref f4920_6, .ref f4920_7]))] _ := hF1.hP (hP.sub [0] rfl) (fa_c ⟨by rw [hsu.1]; decide, by rw [hsu.2]; first | decide | (simp; done) | (simp; omega)⟩ fa_n)
                  have hF := hF.tr (hF1.mono (by simp))
                  have hT := hT1
                  obtain rfl := hqr4945
                  refine W.know (fun hg => ?_)
                  rw [hH0] at hg
                  exact en_i hx hb hr hlocks hL rfl (Nat.zero_le _) (Nat.zero_le _) dX5_readStatement_143 (⟨_, (fun _ _ _ => rfl), hT, hF, hsu, Or.inl ⟨rfl, hg⟩, Or.inl rfl⟩)
            · refine lv_aload_n hx hb dX5_readStatement_71 rfl (lv_at hl 0 rfl) ?_
              refine cv_i (As := []) (rest := []) (b := w) ⟨hx, hb, hml, hown, hts⟩ (c_X5_readPatience hT (w := w) hw (by first | omega | decide | assumption) (by first | omega | decide | assumption)) (cwV 0 hts gX5_readStatement_X5_readPatience rfl rfl rfl hdX5_readPatience_v ⟨Nat.le_of_ble_eq_true rfl, Nat.le_of_ble_eq_true rfl⟩) hN hE hL (rcv6 hN hT hw.1) rfl rfl hl.1 (Nat.le_of_ble_eq_true rfl) dX5_readStatement_72 (Nat.zero_le _) (Nat.zero_le _) (fun r4946 H1 locs hL hqr4946 => ?_)
              obtain ⟨hT1, hF1, hqr4946⟩ := hqr4946
              have hF := hF.tr (hF1.mono (by simp))
              have hT := hT1
              rcases hqr4946 with rfl | rfl
              · refine W.know (fun hg => ?_)
                rw [hH0] at hg
                exact en_i hx hb hr hlocks hL rfl (Nat.zero_le _) (Nat.zero_le _) dX5_readStatement_75 (⟨_, (fun _ _ _ => rfl), hT, hF, hsu, Or.inl ⟨rfl, hg⟩, Or.inl rfl⟩)
              · refine W.know (fun hg => ?_)
                rw [hH0] at hg
                exact en_i hx hb hr hlocks hL rfl (Nat.zero_le _) (Nat.zero_le _) dX5_readStatement_75 (⟨_, (fun _ _ _ => rfl), hT, hF, hsu, Or.inl ⟨rfl, hg⟩, Or.inr rfl⟩)
        · refine lv_aload_n hx hb dX5_readStatement_47 rfl (lv_at hl 0 rfl) ?_
          refine cv_i (As := []) (rest := []) (b := w) ⟨hx, hb, hml, hown, hts⟩ (c_X5_readNeed hT (w := w) hw (by first | omega | decide | assumption) (by first | omega | decide | assumption)) (cwV 0 hts gX5_readStatement_X5_readNeed rfl rfl rfl hdX5_readNeed_v ⟨Nat.le_of_ble_eq_true rfl, Nat.le_of_ble_eq_true rfl⟩) hN hE hL (rcv6 hN hT hw.1) rfl rfl hl.1 (Nat.le_of_ble_eq_true rfl) dX5_readStatement_48 (Nat.zero_le _) (Nat.zero_le _) (fun r4947 H1 locs hL hqr4947 => ?_)
          obtain ⟨hT1, hF1, hqr4947⟩ := hqr4947
          have hF := hF.tr (hF1.mono (by simp))
          have hT := hT1
          rcases hqr4947 with rfl | rfl
          · refine W.know (fun hg => ?_)
            rw [hH0] at hg
            exact en_i hx hb hr hlocks hL rfl (Nat.zero_le _) (Nat.zero_le _) dX5_readStatement_51 (⟨_, (fun _ _ _ => rfl), hT, hF, hsu, Or.inl ⟨rfl, hg⟩, Or.inl rfl⟩)
          · refine W.know (fun hg => ?_)
            rw [hH0] at hg
            exact en_i hx hb hr hlocks hL rfl (Nat.zero_le _) (Nat.zero_le _) dX5_readStatement_51 (⟨_, (fun _ _ _ => rfl), hT, hF, hsu, Or.inl ⟨rfl, hg⟩, Or.inr rfl⟩)
    · refine lv_if_eq (tgt := 28) hx hb dX5_readStatement_20 (by decide) (fun c9 => absurd c9 (by decide)) (fun _ => ?_)
      refine lv_aload_n hx hb dX5_readStatement_23 rfl (lv_at hl 0 rfl) ?_
      refine cv_i (As := []) (rest := []) (b := w) ⟨hx, hb, hml, hown, hts⟩ (c_X5_readLink hT (w := w) hw (by first | omega | decide | assumption) (by first | omega | decide | assumption)) (cwV 0 hts gX5_readStatement_X5_readLink rfl rfl rfl hdX5_readLink_v ⟨Nat.le_of_ble_eq_true rfl, Nat.le_of_ble_eq_true rfl⟩) hN hE hL (rcv6 hN hT hw.1) rfl rfl hl.1 (Nat.le_of_ble_eq_true rfl) dX5_readStatement_24 (Nat.zero_le _) (Nat.zero_le _) (fun r4948 H1 locs hL hqr4948 => ?_)
      obtain ⟨hT1, hF1, hqr4948⟩ := hqr4948
      have hF := hF.tr (hF1.mono (by simp))
      have hT := hT1
      rcases hqr4948 with rfl | rfl
      · refine W.know (fun hg => ?_)
        rw [hH0] at hg
        exact en_i hx hb hr hlocks hL rfl (Nat.zero_le _) (Nat.zero_le _) dX5_readStatement_27 (⟨_, (fun _ _ _ => rfl), hT, hF, hsu, Or.inl ⟨rfl, hg⟩, Or.inl rfl⟩)
      · refine W.know (fun hg => ?_)
        rw [hH0] at hg
        exact en_i hx hb hr hlocks hL rfl (Nat.zero_le _) (Nat.zero_le _) dX5_readStatement_27 (⟨_, (fun _ _ _ => rfl), hT, hF, hsu, Or.inl ⟨rfl, hg⟩, Or.inr rfl⟩)
  · refine lv_if_eq (tgt := 14) hx hb dX5_readStatement_6 (by decide) (fun c9 => absurd c9 (by decide)) (fun _ => ?_)
    refine lv_aload_n hx hb dX5_readStatement_9 rfl (lv_at hl 0 rfl) ?_
    refine cv_i (As := []) (rest := []) (b := w) ⟨hx, hb, hml, hown, hts⟩ (c_X5_readClock hT (w := w) hw (by first | omega | decide | assumption) (by first | omega | decide | assumption)) (cwV 0 hts gX5_readStatement_X5_readClock rfl rfl rfl hdX5_readClock_v ⟨Nat.le_of_ble_eq_true rfl, Nat.le_of_ble_eq_true rfl⟩) hN hE hL (rcv6 hN hT hw.1) rfl rfl hl.1 (Nat.le_of_ble_eq_true rfl) dX5_readStatement_10 (Nat.zero_le _) (Nat.zero_le _) (fun r4949 H1 locs hL hqr4949 => ?_)
    obtain ⟨hT1, hF1, hqr4949⟩ := hqr4949
    have hF := hF.tr (hF1.mono (by simp))
    have hT := hT1
    rcases hqr4949 with rfl | rfl
    · refine W.know (fun hg => ?_)
      rw [hH0] at hg
      exact en_i hx hb hr hlocks hL rfl (Nat.zero_le _) (Nat.zero_le _) dX5_readStatement_13 (⟨_, (fun _ _ _ => rfl), hT, hF, hsu, Or.inl ⟨rfl, hg⟩, Or.inl rfl⟩)
    · refine W.know (fun hg => ?_)
      rw [hH0] at hg
      exact en_i hx hb hr hlocks hL rfl (Nat.zero_le _) (Nat.zero_le _) dX5_readStatement_13 (⟨_, (fun _ _ _ => rfl), hT, hF, hsu, Or.inl ⟨rfl, hg⟩, Or.inr rfl⟩)
theorem mX5_read_1 : (.fieldLink RX5 11 "OneBeat$Reader" "text" "[B" : Cond) ∈ wsX5_read := List.mem_of_getElem? (i := 1) (by decide +kernel)
theorem iX5_read_5 : ∀ w ∈ wsX50, w ∈ wsX5_read := fun w h => List.mem_of_mem_drop (List.mem_of_mem_take ((show wsX50 = (wsX5_read.drop 210).take 14 by decide +kernel) ▸ h))
theorem mX5_read_2 : (.methodLink RX5 23 Lib.Math.min.name : Cond) ∈ wsX5_read := List.mem_of_getElem? (i := 2) (by decide +kernel)
theorem mX5_read_3 : (.static Lib.Math.min.name : Cond) ∈ wsX5_read := List.mem_of_getElem? (i := 3) (by decide +kernel)
theorem mX5_read_4 : (.initialized "java/lang/Math" : Cond) ∈ wsX5_read := List.mem_of_getElem? (i := 4) (by decide +kernel)
theorem mX5_read_5 : (.code Lib.Math.min.name Lib.Math.min.code 2 (some .int) : Cond) ∈ wsX5_read := List.mem_of_getElem? (i := 5) (by decide +kernel)
theorem mX5_read_6 : (.methodLink RX5 29 Lib.Math.max.name : Cond) ∈ wsX5_read := List.mem_of_getElem? (i := 6) (by decide +kernel)
theorem mX5_read_7 : (.static Lib.Math.max.name : Cond) ∈ wsX5_read := List.mem_of_getElem? (i := 7) (by decide +kernel)
theorem mX5_read_8 : (.code Lib.Math.max.name Lib.Math.max.code 2 (some .int) : Cond) ∈ wsX5_read := List.mem_of_getElem? (i := 8) (by decide +kernel)
theorem mX5_read_9 : (.fieldLink RX5 32 "OneBeat$Reader" "length" "I" : Cond) ∈ wsX5_read := List.mem_of_getElem? (i := 9) (by decide +kernel)
theorem mX5_read_10 : (.fieldLink RX5 19 "OneBeat$Reader" "stored" "I" : Cond) ∈ wsX5_read := List.mem_of_getElem? (i := 10) (by decide +kernel)
theorem mX5_read_11 : (.fieldLink RX5 35 "OneBeat$Reader" "position" "I" : Cond) ∈ wsX5_read := List.mem_of_getElem? (i := 11) (by decide +kernel)
theorem mX5_read_12 : (.fieldLink RX5 38 "OneBeat$Reader" "codeCount" "I" : Cond) ∈ wsX5_read := List.mem_of_getElem? (i := 12) (by decide +kernel)
theorem mX5_read_13 : (.fieldLink RX5 41 "OneBeat$Reader" "errorStart" "I" : Cond) ∈ wsX5_read := List.mem_of_getElem? (i := 13) (by decide +kernel)
theorem hdX5_takeWord_v : yX5_takeWord.cls = RX5 ∧ yX5_takeWord.cls ≠ "java/lang/invoke/MethodHandle" ∧ yX5_takeWord.cls ≠ "java/lang/invoke/VarHandle" ∧ (parseMethodDescriptor yX5_takeWord.desc).map (fun d => d.parameters.length) = some 1 := by decide +kernel
theorem iX5_read_6 : ∀ w ∈ wsX60, w ∈ wsX5_read := fun w h => List.mem_of_mem_drop (List.mem_of_mem_take ((show wsX60 = (wsX5_read.drop 224).take 8 by decide +kernel) ▸ h))
theorem mX5_read_14 : (.classLink RX5 53 RX6 : Cond) ∈ wsX5_read := List.mem_of_getElem? (i := 14) (by decide +kernel)
theorem mX5_read_15 : (.instantiable RX6 8 : Cond) ∈ wsX5_read := List.mem_of_getElem? (i := 15) (by decide +kernel)
theorem mX5_read_16 : (.initialized RX6 : Cond) ∈ wsX5_read := List.mem_of_getElem? (i := 16) (by decide +kernel)
theorem dfl6 : ∀ j, j < 8 → defaultValue (tyX6 j) = vp_V [.int 0, .int 0, .int 0, .null, .null, .null, .null, .null] j := by decide +kernel
theorem mX5_read_17 : (.fieldLink RX5 59 "OneBeat$Reader" "taken" "I" : Cond) ∈ wsX5_read := List.mem_of_getElem? (i := 17) (by decide +kernel)
theorem mX5_read_96 : (.instanceMethod yX6_init : Cond) ∈ wsX5_read := List.mem_of_getElem? (i := 96) (by decide +kernel)
theorem mX5_read_95 : (.methodLink RX5 62 yX6_init : Cond) ∈ wsX5_read := List.mem_of_getElem? (i := 95) (by decide +kernel)
theorem hdX6_init_o : yX6_init.cls ≠ "java/lang/invoke/MethodHandle" ∧ yX6_init.cls ≠ "java/lang/invoke/VarHandle" ∧ (parseMethodDescriptor yX6_init.desc).map (fun d => d.parameters.length) = some 1 := by decide +kernel
theorem mX5_read_18 : (.fieldLink RX5 65 "OneBeat$Reader" "setup" "LOneBeat$Setup;" : Cond) ∈ wsX5_read := List.mem_of_getElem? (i := 18) (by decide +kernel)
theorem hdX6_fillIn_v : yX6_fillIn.cls = RX6 ∧ yX6_fillIn.cls ≠ "java/lang/invoke/MethodHandle" ∧ yX6_fillIn.cls ≠ "java/lang/invoke/VarHandle" ∧ (parseMethodDescriptor yX6_fillIn.desc).map (fun d => d.parameters.length) = some 0 := by decide +kernel
theorem mX5_read_19 : (.fieldLink RX5 73 "OneBeat$Reader" "kind" "I" : Cond) ∈ wsX5_read := List.mem_of_getElem? (i := 19) (by decide +kernel)
theorem hdX5_readStatement_v : yX5_readStatement.cls = RX5 ∧ yX5_readStatement.cls ≠ "java/lang/invoke/MethodHandle" ∧ yX5_readStatement.cls ≠ "java/lang/invoke/VarHandle" ∧ (parseMethodDescriptor yX5_readStatement.desc).map (fun d => d.parameters.length) = some 0 := by decide +kernel
set_option maxHeartbeats 4000000 in
set_option maxRecDepth 100000 in
theorem c_X5_read {l : Launch} {D : va_G} {cs : Nat → ClassId} {B0 T : Nat} {κ : KM} {H0 : Heap} (hT : WT B0 D cs T κ H0) {w : Nat} (hw : T2 κ w 6 10) {n : Nat} (hn : n ≤ 600) : KC l yX5_read wsX5_read 22 487 11 1332 D cs B0 H0 [.ref w, .int (nI n)] (Qn (fun r H => ∃ κ1, (∀ a, (κ a).1 ≠ 0 → a ≠ w → (κ a).2.1 ≠ 11 → κ1 a = κ a) ∧ (∀ a, (κ a).1 ≠ 0 → (κ1 a).1 = (κ a).1) ∧ T2 κ1 w 6 10 ∧ (κ1 w).2.2.1 = 0 ∧ WT B0 D cs T κ1 H ∧ Fr B0 [10, 11] κ H0 H ∧ Gr H0 H 8 714 ∧ (r = .null ∨ ∃ q, r = .ref q ∧ T2 κ1 q 7 15))) := by
  refine KC.of cX5_read 3 (some (.object "OneBeat$Setup")) (by decide) rfl (Nat.le_of_ble_eq_true rfl) ?_
  intro p e s m below meth c ls hx hb hr hml hown hts hlocks hin hN hE hH0 hl
  have hown : s.vm.findClass RX5 = some m.cls := hown
  have hl : lv_has ls 3 [(0, .ref w), (1, .int (nI n))] := hl
  have hL : OkL B0 [] := OkL.nil
  have hF : Fr B0 [10, 11] κ H0 H0 := Fr.rf
  refine lv_aload_n hx hb dX5_read_0 rfl (lv_at hl 0 rfl) ?_
  refine lv_iconst (v := 0) hx hb dX5_read_1 (by decide) ?_
  refine lv_iload_n hx hb dX5_read_2 rfl (lv_at hl 1 rfl) ?_
  refine lv_aload_n hx hb dX5_read_3 rfl (lv_at hl 0 rfl) ?_
  obtain ⟨hb4950, e4950, hat4950, hk4950⟩ := hT.o6 hw.1
  obtain ⟨f4950_0, f4950_2, f4950_3, f4950_4, f4950_5, f4950_6, f4950_7, f4950_8, f4950_9, f4950_10, f4950_11, f4950_12, f4950_13, rfl, c4950_1, c4950_2, c4950_3, c4950_5, c4950_10, t4950_0, t4950_9, c4950_11, c4950_p2⟩ := hk4950
  have hP : va_P D vwCl [(w, .inr (5, [.ref f4950_0, .int (nI ((κ w).2.2.1)), .int (nI f4950_2), .int (nI f4950_3), .int f4950_4, .int (nI f4950_5), .int f4950_6, .int f4950_7, .int f4950_8, .ref f4950_9, .int (nI f4950_10), f4950_11, .int f4950_12, .int f4950_13]))] _ := va_P.cons hat4950 va_P.nil
  refine va_get (D := D) (ci := 5) (v := .ref f4950_0) (C := RX5) (T := TX5) (N := 14) hx hb hts iX5_read_5 hown hN.1 hP 0 rfl rfl 0 (by decide) (hts _ mX5_read_1) (fun _ h9 => h9) rfl dX5_read_4 ?_
  obtain ⟨hb4951, e4951, hat4951, hk4951⟩ := hT.o16 t4950_0.1
  obtain ⟨g4951, rfl⟩ := hk4951
  have hP : va_P D vwCl [(f4950_0, .inl (cs 1, 600, .inl g4951)), (w, .inr (5, [.ref f4950_0, .int (nI ((κ w).2.2.1)), .int (nI f4950_2), .int (nI f4950_3), .int f4950_4, .int (nI f4950_5), .int f4950_6, .int f4950_7, .int f4950_8, .ref f4950_9, .int (nI f4950_10), f4950_11, .int f4950_12, .int f4950_13]))] _ := va_P.cons hat4951 hP
  refine va_alen (v := 600) hx hb hN.1 hP 0 1 rfl rfl rfl dX5_read_7 ?_
  refine va_mmin hx hb (hml.trans hl.1.symm) hown (hts _ mX5_read_2) (hts _ mX5_read_3) (hts _ mX5_read_4) (hts _ mX5_read_5) (Nat.le_of_ble_eq_true rfl) (Nat.le_of_ble_eq_true rfl) (Nat.zero_le _) (Nat.zero_le _) dX5_read_8 ?_
  obtain ⟨m4952, hm4952, em4952⟩ := nI_min (a := n) (b := 600) (by omega) (by omega)
  refine tp_i (nI m4952) em4952 ?_
  refine va_mmax hx hb (hml.trans hl.1.symm) hown (hts _ mX5_read_6) (hts _ mX5_read_7) (hts _ mX5_read_4) (hts _ mX5_read_8) (Nat.le_of_ble_eq_true rfl) (Nat.le_of_ble_eq_true rfl) (Nat.zero_le _) (Nat.zero_le _) dX5_read_11 ?_
  obtain ⟨m4953, hm4953, em4953⟩ := nI_max (a := 0) (b := m4952) (by omega) (by omega)
  refine tp_i (nI m4953) em4953 ?_
  have hB : Bx B0 D _ [(f4950_0, .inl (cs 1, 600, .inl g4951)), (w, .inr (5, [.ref f4950_0, .int (nI ((κ w).2.2.1)), .int (nI f4950_2), .int (nI f4950_3), .int f4950_4, .int (nI f4950_5), .int f4950_6, .int f4950_7, .int f4950_8, .ref f4950_9, .int (nI f4950_10), f4950_11, .int f4950_12, .int f4950_13]))] [] _ _ := Bx.of (fun a => (κ a).1) hL hP (fa_c hb4951 (fa_c hb4950 fa_n)) (by simp only [List.map_cons, List.map_nil, t4950_0.1, hw.1]; decide)
  refine b_put (D := D) (ci := 5) (v := .int (nI m4953)) (ty := .int) (C := RX5) (T := TX5) (N := 14) hx hb hts iX5_read_5 tyX5 tyX5_ok nmX5 hown hN hB 1 rfl rfl 2 (by decide) (hts _ mX5_read_9) (fun _ h9 => h9) rfl (by decide +kernel) rfl rfl (Nat.le_of_ble_eq_true rfl) (.inl rfl) dX5_read_14 (fun H locs hB => ?_)
  have hB : Bx B0 D _ [(f4950_0, .inl (cs 1, 600, .inl g4951)), (w, .inr (5, [.ref f4950_0, .int (nI ((κ w).2.2.1)), .int (nI m4953), .int (nI f4950_3), .int f4950_4, .int (nI f4950_5), .int f4950_6, .int f4950_7, .int f4950_8, .ref f4950_9, .int (nI f4950_10), f4950_11, .int f4950_12, .int f4950_13]))] [w] _ _ := hB
  refine lv_aload_n hx hb dX5_read_17 rfl (lv_at hl 0 rfl) ?_
  refine lv_iconst (v := 0) hx hb dX5_read_18 (by decide) ?_
  refine tp_i (nI 0) rfl ?_
  refine b_put (D := D) (ci := 5) (v := .int (nI 0)) (ty := .int) (C := RX5) (T := TX5) (N := 14) hx hb hts iX5_read_5 tyX5 tyX5_ok nmX5 hown hN hB 1 rfl rfl 1 (by decide) (hts _ mX5_read_10) (fun _ h9 => h9) rfl (by decide +kernel) rfl rfl (Nat.le_of_ble_eq_true rfl) (.inr ⟨rfl, List.mem_of_getElem? (i := 0) rfl⟩) dX5_read_19 (fun H locs hB => ?_)
  have hB : Bx B0 D _ [(f4950_0, .inl (cs 1, 600, .inl g4951)), (w, .inr (5, [.ref f4950_0, .int (nI 0), .int (nI m4953), .int (nI f4950_3), .int f4950_4, .int (nI f4950_5), .int f4950_6, .int f4950_7, .int f4950_8, .ref f4950_9, .int (nI f4950_10), f4950_11, .int f4950_12, .int f4950_13]))] [w] _ _ := hB
  refine lv_aload_n hx hb dX5_read_22 rfl (lv_at hl 0 rfl) ?_
  refine lv_iconst (v := 0) hx hb dX5_read_23 (by decide) ?_
  refine tp_i (nI 0) rfl ?_
  refine b_put (D := D) (ci := 5) (v := .int (nI 0)) (ty := .int) (C := RX5) (T := TX5) (N := 14) hx hb hts iX5_read_5 tyX5 tyX5_ok nmX5 hown hN hB 1 rfl rfl 3 (by decide) (hts _ mX5_read_11) (fun _ h9 => h9) rfl (by decide +kernel) rfl rfl (Nat.le_of_ble_eq_true rfl) (.inr ⟨rfl, List.mem_of_getElem? (i := 0) rfl⟩) dX5_read_24 (fun H locs hB => ?_)
  have hB : Bx B0 D _ [(f4950_0, .inl (cs 1, 600, .inl g4951)), (w, .inr (5, [.ref f4950_0, .int (nI 0), .int (nI m4953), .int (nI 0), .int f4950_4, .int (nI f4950_5), .int f4950_6, .int f4950_7, .int f4950_8, .ref f4950_9, .int (nI f4950_10), f4950_11, .int f4950_12, .int f4950_13]))] [w] _ _ := hB
  refine lv_aload_n hx hb dX5_read_27 rfl (lv_at hl 0 rfl) ?_
  refine lv_iconst (v := 0) hx hb dX5_read_28 (by decide) ?_
  refine tp_i (nI 0) rfl ?_
  refine b_put (D := D) (ci := 5) (v := .int (nI 0)) (ty := .int) (C := RX5) (T := TX5) (N := 14) hx hb hts iX5_read_5 tyX5 tyX5_ok nmX5 hown hN hB 1 rfl rfl 10 (by decide) (hts _ mX5_read_12) (fun _ h9 => h9) rfl (by decide +kernel) rfl rfl (Nat.le_of_ble_eq_true rfl) (.inr ⟨rfl, List.mem_of_getElem? (i := 0) rfl⟩) dX5_read_29 (fun H locs hB => ?_)
  have hB : Bx B0 D _ [(f4950_0, .inl (cs 1, 600, .inl g4951)), (w, .inr (5, [.ref f4950_0, .int (nI 0), .int (nI m4953), .int (nI 0), .int f4950_4, .int (nI f4950_5), .int f4950_6, .int f4950_7, .int f4950_8, .ref f4950_9, .int (nI 0), f4950_11, .int f4950_12, .int f4950_13]))] [w] _ _ := hB
  refine lv_aload_n hx hb dX5_read_32 rfl (lv_at hl 0 rfl) ?_
  refine lv_iconst (v := (-1)) hx hb dX5_read_33 (by decide) ?_
  refine b_put (D := D) (ci := 5) (v := .int (-1)) (ty := .int) (C := RX5) (T := TX5) (N := 14) hx hb hts iX5_read_5 tyX5 tyX5_ok nmX5 hown hN hB 1 rfl rfl 13 (by decide) (hts _ mX5_read_13) (fun _ h9 => h9) rfl (by decide +kernel) rfl rfl (Nat.le_of_ble_eq_true rfl) (.inr ⟨rfl, List.mem_of_getElem? (i := 0) rfl⟩) dX5_read_34 (fun H locs hB => ?_)
  have hB : Bx B0 D _ [(f4950_0, .inl (cs 1, 600, .inl g4951)), (w, .inr (5, [.ref f4950_0, .int (nI 0), .int (nI m4953), .int (nI 0), .int f4950_4, .int (nI f4950_5), .int f4950_6, .int f4950_7, .int f4950_8, .ref f4950_9, .int (nI 0), f4950_11, .int f4950_12, .int (-1)]))] [w] _ _ := hB
  have hF : Fr B0 [10, 11] κ H0 _ := hF.close hB (fa_c (by simp [hw.2]) fa_n)
  have hT : WT B0 D cs T (kp κ w 0 0) _ := hT.closeK w 0 0 hB (by rw [hw.1]; decide) (by rw [hw.1]; decide) (List.mem_of_getElem? (i := 0) rfl) ⟨⟨1, _, rfl, kp_ok (ok_6 (k := ((κ w).1, (κ w).2.1, _, _)) hw.1 ⟨_, _, _, _, _, _, _, _, _, _, _, _, _, rfl, (by show 0 ≤ 600; omega), (by omega), (by omega), (by omega), (by omega), (t2kp t4950_0), (t2kp t4950_9), (kp_su c4950_11), (Or.inl rfl)⟩)⟩, trivial⟩
  have hL : OkL B0 _ := hB.2.2.2.2.2
  have hP : va_P D vwCl [(f4950_0, .inl (cs 1, 600, .inl g4951)), (w, .inr (5, [.ref f4950_0, .int (nI 0), .int (nI m4953), .int (nI 0), .int f4950_4, .int (nI f4950_5), .int f4950_6, .int f4950_7, .int f4950_8, .ref f4950_9, .int (nI 0), f4950_11, .int f4950_12, .int (-1)]))] _ := hB.1
  obtain ⟨κ4954, hκ4954⟩ : ∃ κ9 : KM, κ9 = (kp κ w 0 0) := ⟨_, rfl⟩
  have hxf4954 : KF κ κ4954 := by rw [hκ4954]; exact KF.kp
  rw [← hκ4954] at hT
  have hKF : KF κ κ4954 := hxf4954
  have hw := (KF.t2 hxf4954 hw (by decide))
  have hKW : ∀ a, (κ a).1 ≠ 0 → a ≠ w → κ4954 a = κ a := fun a _ h9 => by rw [hκ4954, kp_n h9]
  have hw1 : (κ4954 w).2.2.1 = 0 := by rw [hκ4954, kp_a]
  refine lv_aload_n hx hb dX5_read_37 rfl (lv_at hl 0 rfl) ?_
  refine cv_v (As := []) (rest := []) (b := w) ⟨hx, hb, hml, hown, hts⟩ (c_X5_step hT (w := w) hw) (cwV 0 hts gX5_read_X5_step rfl rfl rfl hdX5_step_v ⟨Nat.le_of_ble_eq_true rfl, Nat.le_of_ble_eq_true rfl⟩) hN hE hL (rcv6 hN hT hw.1) rfl rfl hl.1 (Nat.le_of_ble_eq_true rfl) dX5_read_38 (Nat.zero_le _) (Nat.zero_le _) (fun H1 locs hL hqr4955 => ?_)
  obtain ⟨hT1, hF1, hqr4955⟩ := hqr4955
  have hF := hF.tr ((hF1.kf hKF).mono (by simp))
  have hT := hT1
  have f4956 := hqr4955
  refine lv_aload_n hx hb dX5_read_41 rfl (lv_at hl 0 rfl) ?_
  refine va_ldcS hx hb hown (hN.s 1 rfl) dX5_read_42 ?_
  refine cv_i (As := [.ref (cs 101)]) (rest := []) (b := w) ⟨hx, hb, hml, hown, hts⟩ (c_X5_takeWord hT (w := w) hw (i := 1) (by decide)) (cwV 1 hts gX5_read_X5_takeWord rfl rfl rfl hdX5_takeWord_v ⟨Nat.le_of_ble_eq_true rfl, Nat.le_of_ble_eq_true rfl⟩) hN hE hL (rcv6 hN hT hw.1) rfl rfl hl.1 (Nat.le_of_ble_eq_true rfl) dX5_read_44 (Nat.zero_le _) (Nat.zero_le _) (fun r4957 H1 locs hL hqr4957 => ?_)
  obtain ⟨hT1, hF1, hqr4957⟩ := hqr4957
  have hF := hF.tr ((hF1.kf hKF).mono (by simp))
  have hT := hT1
  rcases hqr4957 with rfl | rfl
  · refine lv_if_eq (tgt := 60) hx hb dX5_read_47 (by decide) (fun _ => ?_) (fun c9 => absurd (by decide) c9)
    refine lv_null hx hb dX5_read_60 ?_
    refine W.know (fun hg => ?_)
    rw [hH0] at hg
    exact en_n hx hb hr hlocks (by first | exact Or.inl ⟨_, rfl⟩ | exact Or.inr ⟨_, rfl⟩) hL (Nat.zero_le _) (Nat.zero_le _) (Or.inl rfl) dX5_read_61 (⟨κ4954, (fun a h1 h2 _ => hKW a h1 h2), (fun a h1 => (hKF a h1).1), hw, hw1, hT, hF, hg.mono (by omega) (by omega), Or.inl rfl⟩)
  · refine lv_if_eq (tgt := 60) hx hb dX5_read_47 (by decide) (fun c9 => absurd c9 (by decide)) (fun _ => ?_)
    refine lv_aload_n hx hb dX5_read_50 rfl (lv_at hl 0 rfl) ?_
    refine lv_iconst (v := 1) hx hb dX5_read_51 (by decide) ?_
    refine lv_bipush (v := 8) hx hb dX5_read_52 (by decide) ?_
    refine cv_i (As := [.int 1, .int 8]) (rest := []) (b := w) ⟨hx, hb, hml, hown, hts⟩ (c_X5_takeNumber hT (w := w) hw (x := 1) (y := 8)) (cwV 2 hts gX5_read_X5_takeNumber rfl rfl rfl hdX5_takeNumber_v ⟨Nat.le_of_ble_eq_true rfl, Nat.le_of_ble_eq_true rfl⟩) hN hE hL (rcv6 hN hT hw.1) rfl rfl hl.1 (Nat.le_of_ble_eq_true rfl) dX5_read_54 (Nat.zero_le _) (Nat.zero_le _) (fun r4958 H1 locs hL hqr4958 => ?_)
    obtain ⟨hT1, hF1, hqr4958⟩ := hqr4958
    have hF := hF.tr ((hF1.kf hKF).mono (by simp))
    have hT := hT1
    rcases hqr4958 with rfl | ⟨rfl, v4959, l4960, g4961, f4962⟩
    · refine lv_if_ne (tgt := 62) hx hb dX5_read_57 (by decide) (fun c9 => absurd (by decide) c9) (fun _ => ?_)
      refine lv_null hx hb dX5_read_60 ?_
      refine W.know (fun hg => ?_)
      rw [hH0] at hg
      exact en_n hx hb hr hlocks (by first | exact Or.inl ⟨_, rfl⟩ | exact Or.inr ⟨_, rfl⟩) hL (Nat.zero_le _) (Nat.zero_le _) (Or.inl rfl) dX5_read_61 (⟨κ4954, (fun a h1 h2 _ => hKW a h1 h2), (fun a h1 => (hKF a h1).1), hw, hw1, hT, hF, hg.mono (by omega) (by omega), Or.inl rfl⟩)
    · obtain ⟨n4963, hn4963a, hn4963b, rfl⟩ := rng (x := v4959) (lo := 1) (hi := 8) (by decide) (by decide) l4960 g4961
      refine lv_if_ne (tgt := 62) hx hb dX5_read_57 (by decide) (fun _ => ?_) (fun c9 => absurd c9 (by decide))
      refine lv_aload_n hx hb dX5_read_62 rfl (lv_at hl 0 rfl) ?_
      have hb0 : B0 ≤ _ := hT.b0 hw (by decide)
      have hP : va_P D vwCl [] _ := hT.nil
      have hB : Bx B0 D _ [] [] _ _ := Bx.of (fun a => (κ4954 a).1) hL hP fa_n (by simp only [List.map_cons, List.map_nil, ]; decide)
      refine nw_o (ci := 6) (fs := [.int 0, .int 0, .int 0, .null, .null, .null, .null, .null]) (C := RX6) (T := TX6) (N := 8) hx hb hts iX5_read_6 tyX6 tyX6_ok hown (hts _ mX5_read_14) (hts _ mX5_read_15) (hts _ mX5_read_16) hN rfl dfl6 (show 0 + 1 ≤ 11 by omega) (show 0 + 8 ≤ 1332 by omega) dX5_read_63 (fun q4964 H heq4964 hzq4964 hoq4964 hatq4964 => ?_)
      have hgeq4964 : _ ≤ q4964 := Nat.le_trans hB.2.2.1 (Nat.le_of_eq heq4964.symm)
      have hbq4964 : B0 ≤ q4964 := Nat.le_trans hb0 hgeq4964
      have hfq4964 : (κ4954 q4964).1 = 0 := hT.fresh hgeq4964
      have hB := hB.nw heq4964 hzq4964 hoq4964 hatq4964 hb0
      have hB : Bx B0 D _ [(q4964, .inr (6, [.int 0, .int 0, .int 0, .null, .null, .null, .null, .null]))] [] _ _ := hB
      have hT0 := hT
      refine lv_dup hx hb dX5_read_66 rfl ?_
      refine lv_aload_n hx hb dX5_read_67 rfl (lv_at hl 0 rfl) ?_
      obtain ⟨hb4965, e4965, hat4965, hk4965⟩ := hT.o6 hw.1
      obtain ⟨f4965_0, f4965_2, f4965_3, f4965_4, f4965_5, f4965_6, f4965_7, f4965_8, f4965_9, f4965_10, f4965_11, f4965_12, f4965_13, rfl, c4965_1, c4965_2, c4965_3, c4965_5, c4965_10, t4965_0, t4965_9, c4965_11, c4965_p2⟩ := hk4965
      obtain rfl : f4965_7 = nI n4963 := Value.int.inj (f4962.eq hat4965 rfl (by decide) rfl)
      have hB : Bx B0 D _ [(q4964, .inr (6, [.int 0, .int 0, .int 0, .null, .null, .null, .null, .null])), (w, .inr (5, [.ref f4965_0, .int (nI ((κ4954 w).2.2.1)), .int (nI f4965_2), .int (nI f4965_3), .int f4965_4, .int (nI f4965_5), .int f4965_6, .int (nI n4963), .int f4965_8, .ref f4965_9, .int (nI f4965_10), f4965_11, .int f4965_12, .int f4965_13]))] [] _ _ := hB.more hat4965 hb4965 (fa_c (nw_ne hat4965 hgeq4964) fa_n) fa_n
      refine va_get (D := D) (ci := 5) (v := .int (nI n4963)) (C := RX5) (T := TX5) (N := 14) hx hb hts iX5_read_5 hown hN.1 hB.1 1 rfl rfl 7 (by decide) (hts _ mX5_read_17) (fun _ h9 => h9) rfl dX5_read_68 ?_
      have hwO := hw
      have hKFO := hKF
      have hT : WT B0 D cs T κ4954 _ := hT.close hB trivial
      have hF : Fr B0 [10, 11] κ H0 _ := hF.closeN hB fa_n
      have hL : OkL B0 _ := hB.2.2.2.2.2
      have hP : va_P D vwCl [(q4964, .inr (6, [.int 0, .int 0, .int 0, .null, .null, .null, .null, .null])), (w, .inr (5, [.ref f4965_0, .int (nI ((κ4954 w).2.2.1)), .int (nI f4965_2), .int (nI f4965_3), .int f4965_4, .int (nI f4965_5), .int f4965_6, .int (nI n4963), .int f4965_8, .ref f4965_9, .int (nI f4965_10), f4965_11, .int f4965_12, .int f4965_13]))] _ := hB.1
      refine ci_v (As := [.int (nI n4963)]) (rest := [.ref q4964, .ref w]) (b := q4964) ⟨hx, hb, hml, hown, hts⟩ (c_X6_init hT (w := q4964) hfq4964 hbq4964 (hP 0 _ rfl) (n := n4963) (by first | omega | decide | assumption)) (cwI 1 hts gX5_read_X6_init rfl rfl rfl (hts _ mX5_read_16) (hts _ mX5_read_95) (hts _ mX5_read_96) rfl hdX6_init_o ⟨Nat.le_of_ble_eq_true rfl, Nat.le_of_ble_eq_true rfl⟩) hN hE hL rfl rfl hl.1 (Nat.le_of_ble_eq_true rfl) dX5_read_71 (show 1 + 4 ≤ 11 by omega) (show (0 + 8) + 88 ≤ 1332 by omega) (fun H1 locs hL hqr4966 => ?_)
      obtain ⟨κr4966, hxr4966, hT1, hF1, hqr4966⟩ := hqr4966
      have hF := hF.tr ((hF1.kf hKF).mono (by simp))
      have hT := hT1
      have hKF := hKF.tr hxr4966.f
      have hw := (hxr4966.f.t2 hw (by decide))
      obtain ⟨hq4964, hqr4966⟩ := hqr4966
      have ekq4964 := hqr4966
      have ew9 : κr4966 w = _ := hxr4966 w (by rw [hwO.1]; decide)
      have hKW : ∀ a, (κ a).1 ≠ 0 → a ≠ w → κr4966 a = κ a := fun a h1 h2 => (hxr4966 a (by rw [hKW a h1 h2]; exact h1)).trans (hKW a h1 h2)
      have hw1 : (κr4966 w).2.2.1 = 0 := by rw [ew9]; exact hw1
      have hsf : (κ q4964).1 = 0 := by have h9 := hfq4964; by_cases h8 : (κ q4964).1 = 0; exact h8; rw [(hKFO _ h8).1] at h9; exact h9
      have hq0 : ¬ q4964 = 0 := by have h9 := hT0.lt hwO (by decide); omega
      have hqw : q4964 ≠ w := ne_c hq4964.1 hw.1 (by decide)
      obtain ⟨hb4967, e4967, hat4967, hk4967⟩ := hT.o6 hw.1
      obtain ⟨f4967_0, f4967_2, f4967_3, f4967_4, f4967_5, f4967_6, f4967_7, f4967_8, f4967_9, f4967_10, f4967_11, f4967_12, f4967_13, rfl, c4967_1, c4967_2, c4967_3, c4967_5, c4967_10, t4967_0, t4967_9, c4967_11, c4967_p2⟩ := hk4967
      have hP : va_P D vwCl [(w, .inr (5, [.ref f4967_0, .int (nI ((κr4966 w).2.2.1)), .int (nI f4967_2), .int (nI f4967_3), .int f4967_4, .int (nI f4967_5), .int f4967_6, .int f4967_7, .int f4967_8, .ref f4967_9, .int (nI f4967_10), f4967_11, .int f4967_12, .int f4967_13]))] _ := va_P.cons hat4967 va_P.nil
      have hB : Bx B0 D _ [(w, .inr (5, [.ref f4967_0, .int (nI ((κr4966 w).2.2.1)), .int (nI f4967_2), .int (nI f4967_3), .int f4967_4, .int (nI f4967_5), .int f4967_6, .int f4967_7, .int f4967_8, .ref f4967_9, .int (nI f4967_10), f4967_11, .int f4967_12, .int f4967_13]))] [] _ _ := Bx.of (fun a => (κr4966 a).1) hL hP (fa_c hb4967 fa_n) (by simp only [List.map_cons, List.map_nil, hw.1]; decide)
      refine b_put (D := D) (ci := 5) (v := .ref q4964) (ty := .object "OneBeat$Setup") (C := RX5) (T := TX5) (N := 14) hx hb hts iX5_read_5 tyX5 tyX5_ok nmX5 hown hN hB 0 rfl rfl 11 (by decide) (hts _ mX5_read_18) (fun _ h9 => h9) rfl (by decide +kernel) rfl rfl (Nat.le_of_ble_eq_true rfl) (.inl rfl) dX5_read_74 (fun H locs hB => ?_)
      have hB : Bx B0 D _ [(w, .inr (5, [.ref f4967_0, .int (nI ((κr4966 w).2.2.1)), .int (nI f4967_2), .int (nI f4967_3), .int f4967_4, .int (nI f4967_5), .int f4967_6, .int f4967_7, .int f4967_8, .ref f4967_9, .int (nI f4967_10), .ref q4964, .int f4967_12, .int f4967_13]))] [w] _ _ := hB
      have hqO := hq4964
      have hF : Fr B0 [10, 11] κ H0 _ := hF.closeN hB (fa_c (fun h9 => by rw [← (hKF _ h9).2, hw.2]; simp) fa_n)
      have hT : WT B0 D cs T (kp κr4966 w (κr4966 w).2.2.1 q4964) _ := hT.closeK w (κr4966 w).2.2.1 q4964 hB (by rw [hw.1]; decide) (by rw [hw.1]; decide) (List.mem_of_getElem? (i := 0) rfl) ⟨⟨0, _, rfl, kp_ok (ok_6 (k := ((κr4966 w).1, (κr4966 w).2.1, _, _)) hw.1 ⟨_, _, _, _, _, _, _, _, _, _, _, _, _, rfl, (by show (κr4966 w).2.2.1 ≤ 600; omega), (by omega), (by omega), (by omega), (by omega), (t2kp t4967_0), (t2kp t4967_9), (kp_su (Or.inr ⟨_, rfl, hq4964.1⟩)), (Or.inr rfl)⟩)⟩, trivial⟩
      have hL : OkL B0 _ := hB.2.2.2.2.2
      have hP : va_P D vwCl [(w, .inr (5, [.ref f4967_0, .int (nI ((κr4966 w).2.2.1)), .int (nI f4967_2), .int (nI f4967_3), .int f4967_4, .int (nI f4967_5), .int f4967_6, .int f4967_7, .int f4967_8, .ref f4967_9, .int (nI f4967_10), .ref q4964, .int f4967_12, .int f4967_13]))] _ := hB.1
      obtain ⟨κ4968, hκ4968⟩ : ∃ κ9 : KM, κ9 = (kp κr4966 w (κr4966 w).2.2.1 q4964) := ⟨_, rfl⟩
      have hxf4968 : KF κr4966 κ4968 := by rw [hκ4968]; exact KF.kp
      rw [← hκ4968] at hT
      have hKF := hKF.tr hxf4968
      have hw := (KF.t2 hxf4968 hw (by decide))
      have hKW : ∀ a, (κ a).1 ≠ 0 → a ≠ w → κ4968 a = κ a := fun a h1 h9 => by rw [hκ4968, kp_n h9]; exact hKW a h1 h9
      have hw1 : (κ4968 w).2.2.1 = 0 := by rw [hκ4968, kp_a]; exact hw1
      have ewq : (κ4968 w).2.2.2 = q4964 := by rw [hκ4968, kp_a]
      have hsf : (κ (κ4968 w).2.2.2).1 = 0 := by rw [ewq]; exact hsf
      have hs0 : ¬ (κ4968 w).2.2.2 = 0 := by rw [ewq]; exact hq0
      have hsu : T2 κ4968 (κ4968 w).2.2.2 7 11 := by rw [ewq]; exact hxf4968.t2 hqO (by decide)
      have hp1 : (κ4968 (κ4968 w).2.2.2).2.2.1 ≠ 1 := by rw [ewq, hκ4968, kp_n hqw, ekq4964]; decide
      refine lv_aload_n hx hb dX5_read_77 rfl (lv_at hl 0 rfl) ?_
      refine lv_bipush (v := 59) hx hb dX5_read_78 (by decide) ?_
      refine cv_i (As := [.int 59]) (rest := []) (b := w) ⟨hx, hb, hml, hown, hts⟩ (c_X5_takeMark hT (w := w) hw (x := 59)) (cwV 1 hts gX5_read_X5_takeMark rfl rfl rfl hdX5_takeMark_v ⟨Nat.le_of_ble_eq_true rfl, Nat.le_of_ble_eq_true rfl⟩) hN hE hL (rcv6 hN hT hw.1) rfl rfl hl.1 (Nat.le_of_ble_eq_true rfl) dX5_read_80 (show 5 + 0 ≤ 11 by omega) (show ((0 + 8) + 88) + 0 ≤ 1332 by omega) (fun r4969 H1 locs hL hqr4969 => ?_)
      obtain ⟨hT1, hF1, hqr4969⟩ := hqr4969
      have hF := hF.tr ((hF1.kf hKF).mono (by simp))
      have hT := hT1
      rcases hqr4969 with rfl | rfl
      · refine lv_if_ne (tgt := 88) hx hb dX5_read_83 (by decide) (fun c9 => absurd (by decide) c9) (fun _ => ?_)
        refine lv_null hx hb dX5_read_86 ?_
        refine W.know (fun hg => ?_)
        rw [hH0] at hg
        exact en_n hx hb hr hlocks (by first | exact Or.inl ⟨_, rfl⟩ | exact Or.inr ⟨_, rfl⟩) hL (show 5 ≤ 11 by omega) (show ((0 + 8) + 88) ≤ 1332 by omega) (Or.inl rfl) dX5_read_87 (⟨κ4968, (fun a h1 h2 _ => hKW a h1 h2), (fun a h1 => (hKF a h1).1), hw, hw1, hT, hF, hg.mono (by omega) (by omega), Or.inl rfl⟩)
      · refine lv_if_ne (tgt := 88) hx hb dX5_read_83 (by decide) (fun _ => ?_) (fun c9 => absurd c9 (by decide))
        refine lv_iconst (v := 0) hx hb dX5_read_88 (by decide) ?_
        refine lv_istore_n (lv' := [(2, .int 0), (0, .ref w), (1, .int (nI n))]) hx hb dX5_read_89 rfl hl (by decide) rfl (fun ls hl => ?_)
        refine W.know (fun hg => ?_)
        rw [hH0] at hg
        have hgg : GG9 κ4968 w H0 _ := Or.inl ⟨hp1, hg.mono (by omega) (by omega)⟩
        refine W.tight (k := 8) (n := 714) (by rw [hH0]; exact hgg.all) ?_
        refine lp_m (α := Nat × KM) (nL := 3) (fun a9 => 600 - a9.1) (fun a9 H9 l9 => (a9.1 ≤ 600) ∧ (∀ a, (κ a).1 ≠ 0 → a ≠ w → a9.2 a = κ a) ∧ (KF κ a9.2) ∧ (T2 a9.2 w 6 10) ∧ ((a9.2 w).2.2.1 = 0) ∧ ((κ (a9.2 w).2.2.2).1 = 0) ∧ (¬ (a9.2 w).2.2.2 = 0) ∧ (T2 a9.2 (a9.2 w).2.2.2 7 11) ∧ (GG9 a9.2 w H0 H9) ∧ (WT B0 D cs T a9.2 H9) ∧ (Fr B0 [10, 11] κ H0 H9) ∧ (OkL B0 l9)) (fun a9 => [(2, .int (nI a9.1)), (0, .ref w)]) ?_ (0, κ4968) _ _ _ ⟨(by show (0) ≤ 600; omega), hKW, hKF, hw, hw1, hsf, hs0, hsu, hgg, hT, hF, hL⟩ (lv_sub hl [0, 1] rfl)
        rintro ⟨k, κ9⟩ H locs ls ih4970 ⟨hk, hKW, hKF, hw, hw1, hsf, hs0, hsu, hgg, hT, hF, hL⟩ hl
        have hl : lv_has ls 3 [(2, .int (nI k)), (0, .ref w)] := hl
        have hk : k ≤ 600 := hk
        have hKW : ∀ a, (κ a).1 ≠ 0 → a ≠ w → κ9 a = κ a := hKW
        have hKF : KF κ κ9 := hKF
        have hw : T2 κ9 w 6 10 := hw
        have hw1 : (κ9 w).2.2.1 = 0 := hw1
        have hsf : (κ (κ9 w).2.2.2).1 = 0 := hsf
        have hs0 : ¬ (κ9 w).2.2.2 = 0 := hs0
        have hsu : T2 κ9 (κ9 w).2.2.2 7 11 := hsu
        have hgg : GG9 κ9 w H0 H := hgg
        have hT : WT B0 D cs T κ9 _ := hT
        refine lv_iload_n hx hb dX5_read_90 rfl (lv_at hl 0 rfl) ?_
        refine lv_sipush (v := 600) hx hb dX5_read_91 (by decide) ?_
        refine lv_icmp_ge (tgt := 128) hx hb dX5_read_94 (by decide) (fun c4971 => ?_) (fun c4971 => ?_)
        · have c4971 : 600 ≤ k := (nI_leI (a := 600) (b := k) (by omega) (by omega)).mp c4971
          refine lv_aload_n hx hb dX5_read_128 rfl (lv_at hl 1 rfl) ?_
          obtain ⟨hb4972, e4972, hat4972, hk4972⟩ := hT.o6 hw.1
          obtain ⟨f4972_0, f4972_2, f4972_3, f4972_4, f4972_5, f4972_6, f4972_7, f4972_8, f4972_9, f4972_10, f4972_11, f4972_12, f4972_13, rfl, c4972_1, c4972_2, c4972_3, c4972_5, c4972_10, t4972_0, t4972_9, c4972_11, c4972_p2⟩ := hk4972
          obtain rfl : f4972_11 = .ref (κ9 w).2.2.2 := c4972_p2.resolve_left hs0
          have hP : va_P D vwCl [(w, .inr (5, [.ref f4972_0, .int (nI ((κ9 w).2.2.1)), .int (nI f4972_2), .int (nI f4972_3), .int f4972_4, .int (nI f4972_5), .int f4972_6, .int f4972_7, .int f4972_8, .ref f4972_9, .int (nI f4972_10), .ref (κ9 w).2.2.2, .int f4972_12, .int f4972_13]))] _ := va_P.cons hat4972 va_P.nil
          refine va_get (D := D) (ci := 5) (v := .ref (κ9 w).2.2.2) (C := RX5) (T := TX5) (N := 14) hx hb hts iX5_read_5 hown hN.1 hP 0 rfl rfl 11 (by decide) (hts _ mX5_read_18) (fun _ h9 => h9) rfl dX5_read_129 ?_
          refine cv_v (As := []) (rest := []) (b := (κ9 w).2.2.2) ⟨hx, hb, hml, hown, hts⟩ (KC.grv (c_X6_fillIn hT (w := (κ9 w).2.2.2) hsu)) (cwV 0 hts gX5_read_X6_fillIn rfl rfl rfl hdX6_fillIn_v ⟨Nat.le_of_ble_eq_true rfl, Nat.le_of_ble_eq_true rfl⟩) hN hE hL (rcv7 hN hT hsu.1) rfl rfl hl.1 (Nat.le_of_ble_eq_true rfl) dX5_read_132 (show 8 + 0 ≤ 11 by omega) (show 714 + 0 ≤ 1332 by omega) (fun H1 locs hL hqr4973 => ?_)
          obtain ⟨hgr4973, hqr4973⟩ := hqr4973
          obtain ⟨hT1, hF1⟩ := hqr4973
          have hP : va_P D vwCl [(w, .inr (5, [.ref f4972_0, .int (nI ((κ9 w).2.2.1)), .int (nI f4972_2), .int (nI f4972_3), .int f4972_4, .int (nI f4972_5), .int f4972_6, .int f4972_7, .int f4972_8, .ref f4972_9, .int (nI f4972_10), .ref (κ9 w).2.2.2, .int f4972_12, .int f4972_13]))] _ := hF1.hP (hP.sub [0] rfl) (fa_c ⟨by rw [hw.1]; decide, by rw [hw.2]; first | decide | (simp; done) | (simp; omega)⟩ fa_n)
          have hF := hF.tr ((hF1.kf hKF).mono (by simp))
          have hT := hT1
          have hgg : GG9 κ9 w H0 _ := hgg.gr hgr4973
          refine lv_aload_n hx hb dX5_read_135 rfl (lv_at hl 1 rfl) ?_
          refine va_get (D := D) (ci := 5) (v := .ref (κ9 w).2.2.2) (C := RX5) (T := TX5) (N := 14) hx hb hts iX5_read_5 hown hN.1 hP 0 rfl rfl 11 (by decide) (hts _ mX5_read_18) (fun _ h9 => h9) rfl dX5_read_136 ?_
          refine W.know (fun hg => ?_)
          rw [hH0] at hg
          exact en_n hx hb hr hlocks (by first | exact Or.inl ⟨_, rfl⟩ | exact Or.inr ⟨_, rfl⟩) hL (show 8 ≤ 11 by omega) (show 714 ≤ 1332 by omega) (Or.inr ⟨_, rfl⟩) dX5_read_139 (⟨ro κ9, (fun a h1 h2 h3 => by rw [ro_n (by rw [hKW a h1 h2]; exact h3)]; exact hKW a h1 h2), (fun a h1 => (hKF a h1).1), (by rw [T2, ro_n (by rw [hw.2]; decide)]; exact hw), (by rw [ro_n (by rw [hw.2]; decide)]; exact hw1), hT.re, hF, hgg.all, Or.inr ⟨_, rfl, ro_t hsu⟩⟩)
        · have c4971 : ¬ 600 ≤ k := fun h9 => c4971 ((nI_leI (a := 600) (b := k) (by omega) (by omega)).mpr h9)
          refine lv_aload_n hx hb dX5_read_97 rfl (lv_at hl 1 rfl) ?_
          obtain ⟨hb4974, e4974, hat4974, hk4974⟩ := hT.o6 hw.1
          obtain ⟨f4974_0, f4974_2, f4974_3, f4974_4, f4974_5, f4974_6, f4974_7, f4974_8, f4974_9, f4974_10, f4974_11, f4974_12, f4974_13, rfl, c4974_1, c4974_2, c4974_3, c4974_5, c4974_10, t4974_0, t4974_9, c4974_11, c4974_p2⟩ := hk4974
          obtain rfl : f4974_11 = .ref (κ9 w).2.2.2 := c4974_p2.resolve_left hs0
          have hP : va_P D vwCl [(w, .inr (5, [.ref f4974_0, .int (nI ((κ9 w).2.2.1)), .int (nI f4974_2), .int (nI f4974_3), .int f4974_4, .int (nI f4974_5), .int f4974_6, .int f4974_7, .int f4974_8, .ref f4974_9, .int (nI f4974_10), .ref (κ9 w).2.2.2, .int f4974_12, .int f4974_13]))] _ := va_P.cons hat4974 va_P.nil
          refine va_get (D := D) (ci := 5) (v := .int f4974_4) (C := RX5) (T := TX5) (N := 14) hx hb hts iX5_read_5 hown hN.1 hP 0 rfl rfl 4 (by decide) (hts _ mX5_read_19) (fun _ h9 => h9) rfl dX5_read_98 ?_
          refine lv_if_eq (tgt := 128) hx hb dX5_read_101 (by decide) (fun c4975 => ?_) (fun c4975 => ?_)
          · refine lv_aload_n hx hb dX5_read_128 rfl (lv_at hl 1 rfl) ?_
            refine va_get (D := D) (ci := 5) (v := .ref (κ9 w).2.2.2) (C := RX5) (T := TX5) (N := 14) hx hb hts iX5_read_5 hown hN.1 hP 0 rfl rfl 11 (by decide) (hts _ mX5_read_18) (fun _ h9 => h9) rfl dX5_read_129 ?_
            refine cv_v (As := []) (rest := []) (b := (κ9 w).2.2.2) ⟨hx, hb, hml, hown, hts⟩ (KC.grv (c_X6_fillIn hT (w := (κ9 w).2.2.2) hsu)) (cwV 0 hts gX5_read_X6_fillIn rfl rfl rfl hdX6_fillIn_v ⟨Nat.le_of_ble_eq_true rfl, Nat.le_of_ble_eq_true rfl⟩) hN hE hL (rcv7 hN hT hsu.1) rfl rfl hl.1 (Nat.le_of_ble_eq_true rfl) dX5_read_132 (show 8 + 0 ≤ 11 by omega) (show 714 + 0 ≤ 1332 by omega) (fun H1 locs hL hqr4976 => ?_)
            obtain ⟨hgr4976, hqr4976⟩ := hqr4976
            obtain ⟨hT1, hF1⟩ := hqr4976
            have hP : va_P D vwCl [(w, .inr (5, [.ref f4974_0, .int (nI ((κ9 w).2.2.1)), .int (nI f4974_2), .int (nI f4974_3), .int f4974_4, .int (nI f4974_5), .int f4974_6, .int f4974_7, .int f4974_8, .ref f4974_9, .int (nI f4974_10), .ref (κ9 w).2.2.2, .int f4974_12, .int f4974_13]))] _ := hF1.hP (hP.sub [0] rfl) (fa_c ⟨by rw [hw.1]; decide, by rw [hw.2]; first | decide | (simp; done) | (simp; omega)⟩ fa_n)
            have hF := hF.tr ((hF1.kf hKF).mono (by simp))
            have hT := hT1
            have hgg : GG9 κ9 w H0 _ := hgg.gr hgr4976
            refine lv_aload_n hx hb dX5_read_135 rfl (lv_at hl 1 rfl) ?_
            refine va_get (D := D) (ci := 5) (v := .ref (κ9 w).2.2.2) (C := RX5) (T := TX5) (N := 14) hx hb hts iX5_read_5 hown hN.1 hP 0 rfl rfl 11 (by decide) (hts _ mX5_read_18) (fun _ h9 => h9) rfl dX5_read_136 ?_
            refine W.know (fun hg => ?_)
            rw [hH0] at hg
            exact en_n hx hb hr hlocks (by first | exact Or.inl ⟨_, rfl⟩ | exact Or.inr ⟨_, rfl⟩) hL (show 8 ≤ 11 by omega) (show 714 ≤ 1332 by omega) (Or.inr ⟨_, rfl⟩) dX5_read_139 (⟨ro κ9, (fun a h1 h2 h3 => by rw [ro_n (by rw [hKW a h1 h2]; exact h3)]; exact hKW a h1 h2), (fun a h1 => (hKF a h1).1), (by rw [T2, ro_n (by rw [hw.2]; decide)]; exact hw), (by rw [ro_n (by rw [hw.2]; decide)]; exact hw1), hT.re, hF, hgg.all, Or.inr ⟨_, rfl, ro_t hsu⟩⟩)
          · refine lv_aload_n hx hb dX5_read_104 rfl (lv_at hl 1 rfl) ?_
            refine cv_i (As := []) (rest := []) (b := w) ⟨hx, hb, hml, hown, hts⟩ (c_X5_readStatement hT (w := w) hw (by first | omega | decide | assumption) (by first | omega | decide | assumption)) (cwV 0 hts gX5_read_X5_readStatement rfl rfl rfl hdX5_readStatement_v ⟨Nat.le_of_ble_eq_true rfl, Nat.le_of_ble_eq_true rfl⟩) hN hE hL (rcv6 hN hT hw.1) rfl rfl hl.1 (Nat.le_of_ble_eq_true rfl) dX5_read_105 (show 8 + 3 ≤ 11 by omega) (show 714 + 618 ≤ 1332 by omega) (fun r4977 H1 locs hL hqr4977 => ?_)
            obtain ⟨κr4977, hxr4977, hT1, hF1, hsr4977, hqr4977⟩ := hqr4977
            have hF := hF.tr ((hF1.kf hKF).mono (by simp))
            have hT := hT1
            have hxfr4977 := KSF hxr4977 hsu hsr4977
            have ew9 : κr4977 w = κ9 w := hxr4977 w (by rw [hw.1]; decide) (ne_c hw.1 hsu.1 (by decide))
            have hKW : ∀ a, (κ a).1 ≠ 0 → a ≠ w → κr4977 a = κ a := fun a h1 h2 => (hxr4977 a (by rw [hKW a h1 h2]; exact h1) (fun e9 => h1 (by rw [e9]; exact hsf))).trans (hKW a h1 h2)
            obtain ⟨hgs, hqr4977⟩ := hqr4977
            have hgg : GG9 κr4977 w H0 _ := hgg.step ew9 hgs
            have hsf : (κ (κr4977 w).2.2.2).1 = 0 := by rw [ew9]; exact hsf
            have hs0 : ¬ (κr4977 w).2.2.2 = 0 := by rw [ew9]; exact hs0
            have hsu : T2 κr4977 (κr4977 w).2.2.2 7 11 := by rw [ew9]; exact hsr4977
            have hw1 : (κr4977 w).2.2.1 = 0 := by rw [ew9]; exact hw1
            have hKF := hKF.tr hxfr4977
            have hw := (KF.t2 hxfr4977 hw (by decide))
            rcases hqr4977 with rfl | rfl
            · refine lv_if_eq (tgt := 120) hx hb dX5_read_108 (by decide) (fun _ => ?_) (fun c9 => absurd (by decide) c9)
              refine lv_null hx hb dX5_read_120 ?_
              refine W.know (fun hg => ?_)
              rw [hH0] at hg
              exact en_n hx hb hr hlocks (by first | exact Or.inl ⟨_, rfl⟩ | exact Or.inr ⟨_, rfl⟩) hL (show 11 ≤ 11 by omega) (show (714 + 618) ≤ 1332 by omega) (Or.inl rfl) dX5_read_121 (⟨κr4977, (fun a h1 h2 _ => hKW a h1 h2), (fun a h1 => (hKF a h1).1), hw, hw1, hT, hF, hgg.all, Or.inl rfl⟩)
            · refine lv_if_eq (tgt := 120) hx hb dX5_read_108 (by decide) (fun c9 => absurd c9 (by decide)) (fun _ => ?_)
              refine lv_aload_n hx hb dX5_read_111 rfl (lv_at hl 1 rfl) ?_
              refine lv_bipush (v := 59) hx hb dX5_read_112 (by decide) ?_
              refine cv_i (As := [.int 59]) (rest := []) (b := w) ⟨hx, hb, hml, hown, hts⟩ (KC.gri (c_X5_takeMark hT (w := w) hw (x := 59))) (cwV 1 hts gX5_read_X5_takeMark rfl rfl rfl hdX5_takeMark_v ⟨Nat.le_of_ble_eq_true rfl, Nat.le_of_ble_eq_true rfl⟩) hN hE hL (rcv6 hN hT hw.1) rfl rfl hl.1 (Nat.le_of_ble_eq_true rfl) dX5_read_114 (show 11 + 0 ≤ 11 by omega) (show (714 + 618) + 0 ≤ 1332 by omega) (fun r4978 H1 locs hL hqr4978 => ?_)
              obtain ⟨hgr4978, hqr4978⟩ := hqr4978
              obtain ⟨hT1, hF1, hqr4978⟩ := hqr4978
              have hF := hF.tr ((hF1.kf hKF).mono (by simp))
              have hT := hT1
              have hgg : GG9 κr4977 w H0 _ := hgg.gr hgr4978
              rcases hqr4978 with rfl | rfl
              · refine lv_if_ne (tgt := 122) hx hb dX5_read_117 (by decide) (fun c9 => absurd (by decide) c9) (fun _ => ?_)
                refine lv_null hx hb dX5_read_120 ?_
                refine W.know (fun hg => ?_)
                rw [hH0] at hg
                exact en_n hx hb hr hlocks (by first | exact Or.inl ⟨_, rfl⟩ | exact Or.inr ⟨_, rfl⟩) hL (show 11 ≤ 11 by omega) (show (714 + 618) ≤ 1332 by omega) (Or.inl rfl) dX5_read_121 (⟨κr4977, (fun a h1 h2 _ => hKW a h1 h2), (fun a h1 => (hKF a h1).1), hw, hw1, hT, hF, hgg.all, Or.inl rfl⟩)
              · refine lv_if_ne (tgt := 122) hx hb dX5_read_117 (by decide) (fun _ => ?_) (fun c9 => absurd c9 (by decide))
                refine lv_iinc (v := (nI (k + 1))) (lv' := [(2, .int (nI (k + 1))), (0, .ref w)]) hx hb dX5_read_122 hl (k := 0) rfl (nI_add _ 1) (by decide) rfl (fun ls hl => ?_)
                refine lv_goto (tgt := 90) hx hb dX5_read_125 (by decide) ?_
                refine W.tight (k := 8) (n := 714) (by rw [hH0]; exact hgg.all) ?_
                exact ih4970 ((k + 1), κr4977) _ _ _ (by show 600 - ((k + 1)) < 600 - k; omega) ⟨(by show ((k + 1)) ≤ 600; omega), hKW, hKF, hw, hw1, hsf, hs0, hsu, hgg, hT, hF, hL⟩ (lv_sub hl [0, 1] rfl)
