theorem mJ7_copyOf_59c91_7 : (.arrayClass .int : Cond) ∈ wsJ7_copyOf_59c91 := List.mem_of_getElem? (i := 7) (by decide +kernel)
theorem mJ7_copyOf_59c91_8 : (.methodLink RJ7 304 Lib.Math.min.name : Cond) ∈ wsJ7_copyOf_59c91 := List.mem_of_getElem? (i := 8) (by decide +kernel)
theorem mJ7_copyOf_59c91_9 : (.static Lib.Math.min.name : Cond) ∈ wsJ7_copyOf_59c91 := List.mem_of_getElem? (i := 9) (by decide +kernel)
theorem mJ7_copyOf_59c91_10 : (.initialized "java/lang/Math" : Cond) ∈ wsJ7_copyOf_59c91 := List.mem_of_getElem? (i := 10) (by decide +kernel)
theorem mJ7_copyOf_59c91_11 : (.code Lib.Math.min.name Lib.Math.min.code 2 (some .int) : Cond) ∈ wsJ7_copyOf_59c91 := List.mem_of_getElem? (i := 11) (by decide +kernel)
theorem mJ7_copyOf_59c91_12 : (.methodLink RJ7 150 arraycopyName : Cond) ∈ wsJ7_copyOf_59c91 := List.mem_of_getElem? (i := 12) (by decide +kernel)
theorem mJ7_copyOf_59c91_13 : (.native arraycopyName : Cond) ∈ wsJ7_copyOf_59c91 := List.mem_of_getElem? (i := 13) (by decide +kernel)
theorem mJ7_copyOf_59c91_14 : (.static arraycopyName : Cond) ∈ wsJ7_copyOf_59c91 := List.mem_of_getElem? (i := 14) (by decide +kernel)
theorem mJ7_copyOf_59c91_15 : (.initialized "java/lang/System" : Cond) ∈ wsJ7_copyOf_59c91 := List.mem_of_getElem? (i := 15) (by decide +kernel)
theorem mJ7_copyOf_59c91_1 : (.methodLink RJ7 316 ⟨"[I", "clone", "()Ljava/lang/Object;"⟩ : Cond) ∈ wsJ7_copyOf_59c91 := List.mem_of_getElem? (i := 1) (by decide +kernel)
theorem mJ7_copyOf_59c91_2 : (.sameMethod "[I" "java/lang/Object" "clone" "()Ljava/lang/Object;" : Cond) ∈ wsJ7_copyOf_59c91 := List.mem_of_getElem? (i := 2) (by decide +kernel)
theorem mJ7_copyOf_59c91_3 : (.native ⟨"java/lang/Object", "clone", "()Ljava/lang/Object;"⟩ : Cond) ∈ wsJ7_copyOf_59c91 := List.mem_of_getElem? (i := 3) (by decide +kernel)
theorem mJ7_copyOf_59c91_4 : (.instanceMethod ⟨"java/lang/Object", "clone", "()Ljava/lang/Object;"⟩ : Cond) ∈ wsJ7_copyOf_59c91 := List.mem_of_getElem? (i := 4) (by decide +kernel)
theorem mJ7_copyOf_59c91_5 : (.selects "[I" ⟨"[I", "clone", "()Ljava/lang/Object;"⟩ ⟨"java/lang/Object", "clone", "()Ljava/lang/Object;"⟩ : Cond) ∈ wsJ7_copyOf_59c91 := List.mem_of_getElem? (i := 5) (by decide +kernel)
theorem mJ7_copyOf_59c91_6 : (.classLink RJ7 317 "[I" : Cond) ∈ wsJ7_copyOf_59c91 := List.mem_of_getElem? (i := 6) (by decide +kernel)
set_option maxHeartbeats 4000000 in
set_option maxRecDepth 100000 in
theorem c_J7_copyOf_59c91 {l : Launch} {D : va_G} {cs : Nat → ClassId} {B0 : Nat} {H0 : Heap} {v n : Nat} {g : Nat → Int32} (hvb : B0 ≤ v) (hva : va_at D vwCl (v, .inl (cs 0, 600, .inl g)) H0) (hn : n ≤ 600) : KC l yJ7_copyOf_59c91 wsJ7_copyOf_59c91 1 60 1 600 D cs B0 H0 [.ref v, .int (nI n)] (Qr (fun r H => r = H0.size ∧ H.size = r + 1 ∧ (∀ x, x < r → H[x]? = H0[x]?) ∧ ∃ f, va_at D vwCl (r, .inl (cs 0, n, .inl f)) H)) := by
  refine KC.of cJ7_copyOf_59c91 3 (some (.array .int)) (by decide) rfl (Nat.le_of_ble_eq_true rfl) ?_
  intro p e s m below meth c ls hx hb hr hml hown hts hlocks hin hN hE hH0 hl
  have hown : s.vm.findClass RJ7 = some m.cls := hown
  have hl : lv_has ls 3 [(0, .ref v), (1, .int (nI n))] := hl
  have hL : OkL B0 [] := OkL.nil
  have hP : va_P D vwCl [(v, .inl (cs 0, 600, .inl g))] _ := va_P.cons hva va_P.nil
  have hb0 : B0 ≤ H0.size := Nat.le_trans hvb (Nat.le_of_lt hva.lt)
  refine lv_iload_n hx hb dJ7_copyOf_59c91_0 rfl (lv_at hl 1 rfl) ?_
  refine lv_aload_n hx hb dJ7_copyOf_59c91_1 rfl (lv_at hl 0 rfl) ?_
  refine va_alen (v := 600) hx hb hN.1 hP 0 0 rfl rfl rfl dJ7_copyOf_59c91_2 ?_
  refine lv_icmp_ne (tgt := 14) hx hb dJ7_copyOf_59c91_3 (by decide) (fun c1940 => ?_) (fun c1940 => ?_)
  · have c1940 : ¬ n = 600 := fun h9 => c1940 ((nI_eq (a := n) (b := 600) (by omega) (by omega)).mpr h9)
    refine lv_iload_n hx hb dJ7_copyOf_59c91_14 rfl (lv_at hl 1 rfl) ?_
    have hB : Bx B0 D _ [(v, .inl (cs 0, 600, .inl g))] [] _ _ := Bx.of (fun a => a) hL hP (fa_c hvb fa_n) (by simp)
    refine nw_a (atype := .int) (ty := .int) (N' := n) (a0 := (n, .inl (fun _ => 0))) 0 hN rfl hx hb (hts _ mJ7_copyOf_59c91_7) rfl (fun _ => rfl) (nI_pos (n := n) (by omega)) (nI_clamp (n := n) (by omega)) (show n * _ ≤ _ by simp only [componentBytes]; omega) (show 0 + 1 ≤ 1 by omega) (show 0 + n ≤ 600 by omega) dJ7_copyOf_59c91_15 (fun q1941 H heq1941 hzq1941 hoq1941 hatq1941 => ?_)
    have hB := hB.nwm heq1941 hzq1941 hoq1941 hatq1941 hb0
    have hB : Bx B0 D _ [(v, .inl (cs 0, 600, .inl g)), (q1941, .inl (cs 0, n, .inl (fun _ => 0)))] [q1941] _ _ := hB
    refine lv_astore_n (lv' := [(2, .ref q1941), (0, .ref v), (1, .int (nI n))]) hx hb dJ7_copyOf_59c91_17 rfl hl (by decide) rfl (fun ls hl => ?_)
    refine lv_aload_n hx hb dJ7_copyOf_59c91_18 rfl (lv_at hl 1 rfl) ?_
    refine lv_iconst (v := 0) hx hb dJ7_copyOf_59c91_19 (by decide) ?_
    refine lv_aload_n hx hb dJ7_copyOf_59c91_20 rfl (lv_at hl 0 rfl) ?_
    refine lv_iconst (v := 0) hx hb dJ7_copyOf_59c91_21 (by decide) ?_
    refine lv_aload_n hx hb dJ7_copyOf_59c91_22 rfl (lv_at hl 1 rfl) ?_
    refine va_alen (v := 600) hx hb hN.1 hB.1 0 0 rfl rfl rfl dJ7_copyOf_59c91_23 ?_
    refine lv_iload_n hx hb dJ7_copyOf_59c91_24 rfl (lv_at hl 2 rfl) ?_
    refine va_mmin hx hb (hml.trans hl.1.symm) hown (hts _ mJ7_copyOf_59c91_8) (hts _ mJ7_copyOf_59c91_9) (hts _ mJ7_copyOf_59c91_10) (hts _ mJ7_copyOf_59c91_11) (Nat.le_of_ble_eq_true rfl) (Nat.le_of_ble_eq_true rfl) (show 1 ≤ 1 by omega) (show (0 + n) ≤ 600 by omega) dJ7_copyOf_59c91_25 ?_
    obtain ⟨m1942, hm1942, em1942⟩ := nI_min (a := 600) (b := n) (by omega) (by omega)
    refine tp_i (nI m1942) em1942 ?_
    refine b_cpy hx hb (hml.trans hl.1.symm) hown (hts _ mJ7_copyOf_59c91_12) (hts _ mJ7_copyOf_59c91_13) (hts _ mJ7_copyOf_59c91_14) (hts _ mJ7_copyOf_59c91_15) hN hB 0 1 rfl rfl (nI_pos (n := 0) (by omega)) (nI_pos (n := 0) (by omega)) (nI_pos (n := m1942) (by omega)) (by rw [show (0 : Int32).toNatClampNeg = 0 from nI_clamp (n := 0) (by omega), show ((nI m1942) : Int32).toNatClampNeg = m1942 from nI_clamp (n := m1942) (by omega)]; omega) (by rw [show (0 : Int32).toNatClampNeg = 0 from nI_clamp (n := 0) (by omega), show ((nI m1942) : Int32).toNatClampNeg = m1942 from nI_clamp (n := m1942) (by omega)]; omega) (.inr ⟨rfl, List.mem_of_getElem? (i := 0) rfl⟩) (Nat.le_of_ble_eq_true rfl) (Nat.le_of_ble_eq_true rfl) dJ7_copyOf_59c91_28 (fun H locs hB => ?_)
    generalize va_cpy _ _ _ _ _ = g1943 at hB
    have hB : Bx B0 D _ [(v, .inl (cs 0, 600, .inl g)), (q1941, .inl (cs 0, n, .inl g1943))] [q1941] _ _ := hB
    refine lv_aload_n hx hb dJ7_copyOf_59c91_31 rfl (lv_at hl 0 rfl) ?_
    have hL : OkL B0 _ := hB.2.2.2.2.2
    refine W.know (fun hg => ?_)
    rw [hH0] at hg
    exact en_r hx hb hr hlocks (by first | exact Or.inl ⟨_, rfl⟩ | exact Or.inr ⟨_, rfl⟩) hL (show 1 ≤ 1 by omega) (show (0 + n) ≤ 600 by omega) dJ7_copyOf_59c91_32 (⟨heq1941, (by have h1 := hg.2.1; have h2 := (hB.1 1 _ rfl).lt; have h2 : q1941 < _ := h2; omega), (fun x hx9 => hB.2.2.2.1 x (by omega) (by simp; omega)), _, hB.1 1 _ rfl⟩)
  · have c1940 : n = 600 := (nI_eq (a := n) (b := 600) (by omega) (by omega)).mp c1940
    refine lv_aload_n hx hb dJ7_copyOf_59c91_6 rfl (lv_at hl 0 rfl) ?_
    refine nw_cl hx hb (hml.trans hl.1.symm) hown (hts _ mJ7_copyOf_59c91_1) (hts _ mJ7_copyOf_59c91_2) (hts _ mJ7_copyOf_59c91_3) (hts _ mJ7_copyOf_59c91_4) (hts _ mJ7_copyOf_59c91_5) hN (hP 0 _ rfl) (Nat.le_of_ble_eq_true rfl) (Nat.le_of_ble_eq_true rfl) (show 0 + 1 ≤ 1 by omega) (show 0 + 600 ≤ 600 by omega) dJ7_copyOf_59c91_7 (fun q1944 H heq1944 hzq1944 hoq1944 hatq1944 => ?_)
    refine nw_ca hx hb hown (hts _ mJ7_copyOf_59c91_6) hN hatq1944 dJ7_copyOf_59c91_10 ?_
    refine W.know (fun hg => ?_)
    rw [hH0] at hg
    obtain rfl : n = 600 := c1940
    exact en_r hx hb hr hlocks (by first | exact Or.inl ⟨_, rfl⟩ | exact Or.inr ⟨_, rfl⟩) hL (show 1 ≤ 1 by omega) (show (0 + 600) ≤ 600 by omega) dJ7_copyOf_59c91_13 (⟨heq1944, hzq1944, hoq1944, _, hatq1944⟩)
theorem mX0_init_1 : (.methodLink RX0 1 objectInit : Cond) ∈ wsX0_init := List.mem_of_getElem? (i := 1) (by decide +kernel)
theorem mX0_init_2 : (.instanceMethod objectInit : Cond) ∈ wsX0_init := List.mem_of_getElem? (i := 2) (by decide +kernel)
theorem mX0_init_3 : (.code objectInit ⟨#[0xb1]⟩ 1 none : Cond) ∈ wsX0_init := List.mem_of_getElem? (i := 3) (by decide +kernel)
theorem mX0_init_4 : (.arrayClass .int : Cond) ∈ wsX0_init := List.mem_of_getElem? (i := 4) (by decide +kernel)
theorem mX0_init_5 : (.fieldLink RX0 9 "OneBeat$Formula" "stack" "[I" : Cond) ∈ wsX0_init := List.mem_of_getElem? (i := 5) (by decide +kernel)
theorem iX0_init_0 : ∀ w ∈ wsX00, w ∈ wsX0_init := fun w h => List.mem_of_mem_drop (List.mem_of_mem_take ((show wsX00 = (wsX0_init.drop 25).take 2 by decide +kernel) ▸ h))
theorem hdJ7_copyOf_59c91_o : yJ7_copyOf_59c91.cls ≠ "java/lang/invoke/MethodHandle" ∧ yJ7_copyOf_59c91.cls ≠ "java/lang/invoke/VarHandle" ∧ (parseMethodDescriptor yJ7_copyOf_59c91.desc).map (fun d => d.parameters.length) = some 2 := by decide +kernel
theorem mX0_init_6 : (.fieldLink RX0 19 "OneBeat$Formula" "codes" "[I" : Cond) ∈ wsX0_init := List.mem_of_getElem? (i := 6) (by decide +kernel)
set_option maxHeartbeats 4000000 in
set_option maxRecDepth 100000 in
theorem c_X0_init {l : Launch} {D : va_G} {cs : Nat → ClassId} {B0 T : Nat} {κ : KM} {H0 : Heap} (hT : WT B0 D cs T κ H0) {w : Nat} (hfw : (κ w).1 = 0) (hwb : B0 ≤ w) (hwa : va_at D vwCl (w, .inr (0, [.null, .null])) H0) {v n : Nat} (hv : T2 κ v 17 10) (hn : n ≤ 600) : KC l yX0_init wsX0_init 2 82 2 616 D cs B0 H0 [.ref w, .ref v, .int (nI n)] (Qv (fun H => ∃ κ1, KX κ κ1 ∧ WT B0 D cs T κ1 H ∧ Fr B0 [] κ H0 H ∧ T2 κ1 w 1 15)) := by
  refine KC.of cX0_init 3 none (by decide) rfl (Nat.le_of_ble_eq_true rfl) ?_
  intro p e s m below meth c ls hx hb hr hml hown hts hlocks hin hN hE hH0 hl
  have hown : s.vm.findClass RX0 = some m.cls := hown
  have hl : lv_has ls 3 [(0, .ref w), (1, .ref v), (2, .int (nI n))] := hl
  have hL : OkL B0 [] := OkL.nil
  have hF : Fr B0 [] κ H0 H0 := Fr.rf
  have hP : va_P D vwCl [(w, .inr (0, [.null, .null]))] _ := va_P.cons hwa va_P.nil
  have hb0 : B0 ≤ H0.size := Nat.le_trans hwb (Nat.le_of_lt hwa.lt)
  refine lv_aload_n hx hb dX0_init_0 rfl (lv_at hl 0 rfl) ?_
  refine W.objInit hx hb hown (hts _ mX0_init_1) (hts _ mX0_init_2) (hts _ mX0_init_3) rfl (by rw [hml]; exact hl.1) rfl dX0_init_1 (Nat.le_of_ble_eq_true rfl) (Nat.le_of_ble_eq_true rfl) ?_
  refine W.eq (g2 := F0 m 4 ls []) rfl ?_
  refine lv_aload_n hx hb dX0_init_4 rfl (lv_at hl 0 rfl) ?_
  refine lv_bipush (v := 16) hx hb dX0_init_5 (by decide) ?_
  have hB : Bx B0 D _ [(w, .inr (0, [.null, .null]))] [] _ _ := Bx.of (fun a => (κ a).1) hL hP (fa_c hwb fa_n) (by simp only [List.map_cons, List.map_nil, hfw]; decide)
  refine nw_a (atype := .int) (ty := .int) (N' := 16) (a0 := (16, .inl (fun _ => 0))) 0 hN rfl hx hb (hts _ mX0_init_4) rfl (fun _ => rfl) (nI_pos (n := 16) (by omega)) (nI_clamp (n := 16) (by omega)) (show 16 * _ ≤ _ by simp only [componentBytes]; omega) (show 0 + 1 ≤ 2 by omega) (show 0 + 16 ≤ 616 by omega) dX0_init_7 (fun q1945 H heq1945 hzq1945 hoq1945 hatq1945 => ?_)
  have hgeq1945 : _ ≤ q1945 := Nat.le_trans hB.2.2.1 (Nat.le_of_eq heq1945.symm)
  have hbq1945 : B0 ≤ q1945 := Nat.le_trans hb0 hgeq1945
  have hfq1945 : (κ q1945).1 = 0 := hT.fresh hgeq1945
  have hB := hB.nwm heq1945 hzq1945 hoq1945 hatq1945 hb0
  have hB : Bx B0 D _ [(w, .inr (0, [.null, .null])), (q1945, .inl (cs 0, 16, .inl (fun _ => 0)))] [q1945] _ _ := hB
  refine b_putF (D := D) (ci := 0) (v := .ref q1945) (ty := .array .int) (C := RX0) (T := TX0) (N := 2) hx hb hts iX0_init_0 tyX0 tyX0_ok nmX0 hown hN hB 0 rfl rfl 1 (by decide) (hts _ mX0_init_5) (fun _ h9 => h9) rfl hin rfl (by decide +kernel) rfl rfl (Nat.le_of_ble_eq_true rfl) (.inl rfl) dX0_init_9 (fun H locs hB => ?_)
  have hB : Bx B0 D _ [(w, .inr (0, [.null, .ref q1945])), (q1945, .inl (cs 0, 16, .inl (fun _ => 0)))] [w, q1945] _ _ := hB
  refine lv_aload_n hx hb dX0_init_12 rfl (lv_at hl 0 rfl) ?_
  refine lv_aload_n hx hb dX0_init_13 rfl (lv_at hl 1 rfl) ?_
  refine lv_iload_n hx hb dX0_init_14 rfl (lv_at hl 2 rfl) ?_
  refine lv_if_ge (tgt := 22) hx hb dX0_init_15 (by decide) (fun c1946 => ?_) (fun c1946 => ?_)
  · have c1946 : 0 ≤ n := (nI_leI (a := 0) (b := n) (by omega) (by omega)).mp c1946
    refine lv_iload_n hx hb dX0_init_22 rfl (lv_at hl 2 rfl) ?_
    obtain ⟨hb1947, e1947, hat1947, hk1947⟩ := hT.o17 hv.1
    obtain ⟨g1947, rfl⟩ := hk1947
    have hB : Bx B0 D _ [(w, .inr (0, [.null, .ref q1945])), (q1945, .inl (cs 0, 16, .inl (fun _ => 0))), (v, .inl (cs 0, 600, .inl g1947))] [w, q1945] _ _ := hB.more hat1947 hb1947 (fa_c (ne_c hfw hv.1 (by decide))  (fa_c (nw_ne hat1947 hgeq1945) fa_n)) (fa_c (ne_c hfw hv.1 (by decide))  (fa_c (nw_ne hat1947 hgeq1945) fa_n))
    have hL : OkL B0 _ := hB.2.2.2.2.2
    refine cs_r (As := [.ref v, .int (nI n)]) (rest := [.ref w]) ⟨hx, hb, hml, hown, hts⟩ (c_J7_copyOf_59c91 (v := v) (n := n) hb1947 (hB.1 2 _ rfl) (by omega)) (va_cwS 2 hts gX0_init_J7_copyOf_59c91 rfl rfl rfl hdJ7_copyOf_59c91_o ⟨Nat.le_of_ble_eq_true rfl, Nat.le_of_ble_eq_true rfl⟩) hN hE hL rfl rfl hl.1 (Nat.le_of_ble_eq_true rfl) dX0_init_23 (show 1 + 1 ≤ 2 by omega) (show (0 + 16) + 600 ≤ 616 by omega) (fun q1948 H1 locs hL hqq1948 => ?_)
    obtain ⟨heq1948, hzq1948, hoq1948, gq1948, hatq1948⟩ := hqq1948
    have hB := hB.lc hL
    have hgeq1948 : _ ≤ q1948 := Nat.le_trans hB.2.2.1 (Nat.le_of_eq heq1948.symm)
    have hbq1948 : B0 ≤ q1948 := Nat.le_trans hb0 hgeq1948
    have hfq1948 : (κ q1948).1 = 0 := hT.fresh hgeq1948
    have hB := hB.nwm heq1948 hzq1948 hoq1948 hatq1948 hb0
    have hB : Bx B0 D _ [(w, .inr (0, [.null, .ref q1945])), (q1945, .inl (cs 0, 16, .inl (fun _ => 0))), (v, .inl (cs 0, 600, .inl g1947)), (q1948, .inl (cs 0, n, .inl gq1948))] [q1948, w, q1945] _ _ := hB
    refine b_putF (D := D) (ci := 0) (v := .ref q1948) (ty := .array .int) (C := RX0) (T := TX0) (N := 2) hx hb hts iX0_init_0 tyX0 tyX0_ok nmX0 hown hN hB 0 rfl rfl 0 (by decide) (hts _ mX0_init_6) (fun _ h9 => h9) rfl hin rfl (by decide +kernel) rfl rfl (Nat.le_of_ble_eq_true rfl) (.inr ⟨rfl, List.mem_of_getElem? (i := 1) rfl⟩) dX0_init_26 (fun H locs hB => ?_)
    have hB : Bx B0 D _ [(w, .inr (0, [.ref q1948, .ref q1945])), (q1945, .inl (cs 0, 16, .inl (fun _ => 0))), (v, .inl (cs 0, 600, .inl g1947)), (q1948, .inl (cs 0, n, .inl gq1948))] [q1948, w, q1945] _ _ := hB
    obtain ⟨κ1949, hκ1949⟩ : ∃ κ9 : KM, κ9 = (ku (ku (ku κ w (1, 15, 0, 0)) q1945 (22, 16, 0, 0)) q1948 (21, 15, 0, 0)) := ⟨_, rfl⟩
    have hx1949 : KX κ κ1949 := by rw [hκ1949]; exact (((KX.ku hfw).tr (KX.ku (by rw [ku_n (fun e9 => absurd (hB.2.1.1 1 0 _ _ rfl rfl e9) (by decide))]; exact hfq1945))).tr (KX.ku (by rw [ku_n (fun e9 => absurd (hB.2.1.1 3 1 _ _ rfl rfl e9) (by decide)), ku_n (fun e9 => absurd (hB.2.1.1 3 0 _ _ rfl rfl e9) (by decide))]; exact hfq1948)))
    have ew : κ1949 w = (1, 15, 0, 0) := by rw [hκ1949, ku_n (fun e9 => absurd (hB.2.1.1 0 3 _ _ rfl rfl e9) (by decide)), ku_n (fun e9 => absurd (hB.2.1.1 0 1 _ _ rfl rfl e9) (by decide)), ku_a]
    have hw : T2 κ1949 w 1 15 := ⟨by rw [ew], by rw [ew]⟩
    have eq1945 : κ1949 q1945 = (22, 16, 0, 0) := by rw [hκ1949, ku_n (fun e9 => absurd (hB.2.1.1 1 3 _ _ rfl rfl e9) (by decide)), ku_a]
    have hq1945 : T2 κ1949 q1945 22 16 := ⟨by rw [eq1945], by rw [eq1945]⟩
    have eq1948 : κ1949 q1948 = (21, 15, 0, 0) := by rw [hκ1949, ku_a]
    have hq1948 : T2 κ1949 q1948 21 15 := ⟨by rw [eq1948], by rw [eq1948]⟩
    have hx9 := hx1949
    have hT : WT B0 D cs T κ1949 _ := hT.closeN hB hx1949 (fun a9 h9 => by rw [hκ1949, ku_n (fun e9 => h9 (by rw [e9]; exact List.mem_of_getElem? (i := 0) rfl)), ku_n (fun e9 => h9 (by rw [e9]; exact List.mem_of_getElem? (i := 2) rfl)), ku_n (fun e9 => h9 (by rw [e9]; exact List.mem_of_getElem? (i := 1) rfl))]) ⟨⟨3, _, rfl, ok_21 hq1948.1 ⟨_, _, rfl, (by omega)⟩⟩, ⟨⟨0, _, rfl, ok_1 hw.1 ⟨_, _, rfl, hq1948, hq1945⟩⟩, ⟨⟨1, _, rfl, ok_22 hq1945.1 ⟨_, rfl⟩⟩, trivial⟩⟩⟩
    have hF : Fr B0 [] κ H0 _ := hF.closeN hB (fa_c (fun h9 => absurd hfq1948 h9) (fa_c (fun h9 => absurd hfw h9) (fa_c (fun h9 => absurd hfq1945 h9) fa_n)))
    have hL : OkL B0 _ := hB.2.2.2.2.2
    have hKF : KF κ κ1949 := hx1949.f
    have hKX : KX κ κ1949 := hx1949
    have hv := (hx1949.f.t2 hv (by decide))
    have hP : va_P D vwCl [(w, .inr (0, [.ref q1948, .ref q1945])), (q1945, .inl (cs 0, 16, .inl (fun _ => 0))), (v, .inl (cs 0, 600, .inl g1947)), (q1948, .inl (cs 0, n, .inl gq1948))] _ := hB.1
    exact en_v hx hb hr hlocks hL (show 2 ≤ 2 by omega) (show ((0 + 16) + 600) ≤ 616 by omega) dX0_init_29 (⟨_, hKX, hT, hF, hw⟩)
  · have c1946 : ¬ 0 ≤ n := fun h9 => c1946 ((nI_leI (a := 0) (b := n) (by omega) (by omega)).mpr h9)
    refine lv_iconst (v := 0) hx hb dX0_init_18 (by decide) ?_
    refine lv_goto (tgt := 23) hx hb dX0_init_19 (by decide) ?_
    obtain ⟨hb1950, e1950, hat1950, hk1950⟩ := hT.o17 hv.1
    obtain ⟨g1950, rfl⟩ := hk1950
    have hB : Bx B0 D _ [(w, .inr (0, [.null, .ref q1945])), (q1945, .inl (cs 0, 16, .inl (fun _ => 0))), (v, .inl (cs 0, 600, .inl g1950))] [w, q1945] _ _ := hB.more hat1950 hb1950 (fa_c (ne_c hfw hv.1 (by decide))  (fa_c (nw_ne hat1950 hgeq1945) fa_n)) (fa_c (ne_c hfw hv.1 (by decide))  (fa_c (nw_ne hat1950 hgeq1945) fa_n))
    have hL : OkL B0 _ := hB.2.2.2.2.2
    refine cs_r (As := [.ref v, .int 0]) (rest := [.ref w]) ⟨hx, hb, hml, hown, hts⟩ (c_J7_copyOf_59c91 (v := v) (n := 0) hb1950 (hB.1 2 _ rfl) (by omega)) (va_cwS 2 hts gX0_init_J7_copyOf_59c91 rfl rfl rfl hdJ7_copyOf_59c91_o ⟨Nat.le_of_ble_eq_true rfl, Nat.le_of_ble_eq_true rfl⟩) hN hE hL rfl rfl hl.1 (Nat.le_of_ble_eq_true rfl) dX0_init_23 (show 1 + 1 ≤ 2 by omega) (show (0 + 16) + 600 ≤ 616 by omega) (fun q1951 H1 locs hL hqq1951 => ?_)
    obtain ⟨heq1951, hzq1951, hoq1951, gq1951, hatq1951⟩ := hqq1951
    have hB := hB.lc hL
    have hgeq1951 : _ ≤ q1951 := Nat.le_trans hB.2.2.1 (Nat.le_of_eq heq1951.symm)
    have hbq1951 : B0 ≤ q1951 := Nat.le_trans hb0 hgeq1951
    have hfq1951 : (κ q1951).1 = 0 := hT.fresh hgeq1951
    have hB := hB.nwm heq1951 hzq1951 hoq1951 hatq1951 hb0
    have hB : Bx B0 D _ [(w, .inr (0, [.null, .ref q1945])), (q1945, .inl (cs 0, 16, .inl (fun _ => 0))), (v, .inl (cs 0, 600, .inl g1950)), (q1951, .inl (cs 0, 0, .inl gq1951))] [q1951, w, q1945] _ _ := hB
    refine b_putF (D := D) (ci := 0) (v := .ref q1951) (ty := .array .int) (C := RX0) (T := TX0) (N := 2) hx hb hts iX0_init_0 tyX0 tyX0_ok nmX0 hown hN hB 0 rfl rfl 0 (by decide) (hts _ mX0_init_6) (fun _ h9 => h9) rfl hin rfl (by decide +kernel) rfl rfl (Nat.le_of_ble_eq_true rfl) (.inr ⟨rfl, List.mem_of_getElem? (i := 1) rfl⟩) dX0_init_26 (fun H locs hB => ?_)
    have hB : Bx B0 D _ [(w, .inr (0, [.ref q1951, .ref q1945])), (q1945, .inl (cs 0, 16, .inl (fun _ => 0))), (v, .inl (cs 0, 600, .inl g1950)), (q1951, .inl (cs 0, 0, .inl gq1951))] [q1951, w, q1945] _ _ := hB
    obtain ⟨κ1952, hκ1952⟩ : ∃ κ9 : KM, κ9 = (ku (ku (ku κ w (1, 15, 0, 0)) q1945 (22, 16, 0, 0)) q1951 (21, 15, 0, 0)) := ⟨_, rfl⟩
    have hx1952 : KX κ κ1952 := by rw [hκ1952]; exact (((KX.ku hfw).tr (KX.ku (by rw [ku_n (fun e9 => absurd (hB.2.1.1 1 0 _ _ rfl rfl e9) (by decide))]; exact hfq1945))).tr (KX.ku (by rw [ku_n (fun e9 => absurd (hB.2.1.1 3 1 _ _ rfl rfl e9) (by decide)), ku_n (fun e9 => absurd (hB.2.1.1 3 0 _ _ rfl rfl e9) (by decide))]; exact hfq1951)))
    have ew : κ1952 w = (1, 15, 0, 0) := by rw [hκ1952, ku_n (fun e9 => absurd (hB.2.1.1 0 3 _ _ rfl rfl e9) (by decide)), ku_n (fun e9 => absurd (hB.2.1.1 0 1 _ _ rfl rfl e9) (by decide)), ku_a]
    have hw : T2 κ1952 w 1 15 := ⟨by rw [ew], by rw [ew]⟩
    have eq1945 : κ1952 q1945 = (22, 16, 0, 0) := by rw [hκ1952, ku_n (fun e9 => absurd (hB.2.1.1 1 3 _ _ rfl rfl e9) (by decide)), ku_a]
    have hq1945 : T2 κ1952 q1945 22 16 := ⟨by rw [eq1945], by rw [eq1945]⟩
    have eq1951 : κ1952 q1951 = (21, 15, 0, 0) := by rw [hκ1952, ku_a]
    have hq1951 : T2 κ1952 q1951 21 15 := ⟨by rw [eq1951], by rw [eq1951]⟩
    have hx9 := hx1952
    have hT : WT B0 D cs T κ1952 _ := hT.closeN hB hx1952 (fun a9 h9 => by rw [hκ1952, ku_n (fun e9 => h9 (by rw [e9]; exact List.mem_of_getElem? (i := 0) rfl)), ku_n (fun e9 => h9 (by rw [e9]; exact List.mem_of_getElem? (i := 2) rfl)), ku_n (fun e9 => h9 (by rw [e9]; exact List.mem_of_getElem? (i := 1) rfl))]) ⟨⟨3, _, rfl, ok_21 hq1951.1 ⟨_, _, rfl, (by omega)⟩⟩, ⟨⟨0, _, rfl, ok_1 hw.1 ⟨_, _, rfl, hq1951, hq1945⟩⟩, ⟨⟨1, _, rfl, ok_22 hq1945.1 ⟨_, rfl⟩⟩, trivial⟩⟩⟩
    have hF : Fr B0 [] κ H0 _ := hF.closeN hB (fa_c (fun h9 => absurd hfq1951 h9) (fa_c (fun h9 => absurd hfw h9) (fa_c (fun h9 => absurd hfq1945 h9) fa_n)))
    have hL : OkL B0 _ := hB.2.2.2.2.2
    have hKF : KF κ κ1952 := hx1952.f
    have hKX : KX κ κ1952 := hx1952
    have hv := (hx1952.f.t2 hv (by decide))
    have hP : va_P D vwCl [(w, .inr (0, [.ref q1951, .ref q1945])), (q1945, .inl (cs 0, 16, .inl (fun _ => 0))), (v, .inl (cs 0, 600, .inl g1950)), (q1951, .inl (cs 0, 0, .inl gq1951))] _ := hB.1
    exact en_v hx hb hr hlocks hL (show 2 ≤ 2 by omega) (show ((0 + 16) + 600) ≤ 616 by omega) dX0_init_29 (⟨_, hKX, hT, hF, hw⟩)
theorem mX6_init_1 : (.methodLink RX6 1 objectInit : Cond) ∈ wsX6_init := List.mem_of_getElem? (i := 1) (by decide +kernel)
theorem mX6_init_2 : (.instanceMethod objectInit : Cond) ∈ wsX6_init := List.mem_of_getElem? (i := 2) (by decide +kernel)
theorem mX6_init_3 : (.code objectInit ⟨#[0xb1]⟩ 1 none : Cond) ∈ wsX6_init := List.mem_of_getElem? (i := 3) (by decide +kernel)
theorem mX6_init_4 : (.arrayClass .boolean : Cond) ∈ wsX6_init := List.mem_of_getElem? (i := 4) (by decide +kernel)
theorem mX6_init_5 : (.fieldLink RX6 9 "OneBeat$Setup" "isClockTold" "[Z" : Cond) ∈ wsX6_init := List.mem_of_getElem? (i := 5) (by decide +kernel)
theorem iX6_init_6 : ∀ w ∈ wsX60, w ∈ wsX6_init := fun w h => List.mem_of_mem_drop (List.mem_of_mem_take ((show wsX60 = (wsX6_init.drop 11).take 8 by decide +kernel) ▸ h))
theorem mX6_init_6 : (.arrayClass .int : Cond) ∈ wsX6_init := List.mem_of_getElem? (i := 6) (by decide +kernel)
theorem mX6_init_7 : (.fieldLink RX6 13 "OneBeat$Setup" "offset" "[I" : Cond) ∈ wsX6_init := List.mem_of_getElem? (i := 7) (by decide +kernel)
theorem mX6_init_8 : (.fieldLink RX6 17 "OneBeat$Setup" "drift" "[I" : Cond) ∈ wsX6_init := List.mem_of_getElem? (i := 8) (by decide +kernel)
theorem mX6_init_9 : (.fieldLink RX6 20 "OneBeat$Setup" "delay" "[I" : Cond) ∈ wsX6_init := List.mem_of_getElem? (i := 9) (by decide +kernel)
theorem mX6_init_10 : (.fieldLink RX6 23 "OneBeat$Setup" "players" "I" : Cond) ∈ wsX6_init := List.mem_of_getElem? (i := 10) (by decide +kernel)
set_option maxHeartbeats 4000000 in
set_option maxRecDepth 100000 in
theorem c_X6_init {l : Launch} {D : va_G} {cs : Nat → ClassId} {B0 T : Nat} {κ : KM} {H0 : Heap} (hT : WT B0 D cs T κ H0) {w : Nat} (hfw : (κ w).1 = 0) (hwb : B0 ≤ w) (hwa : va_at D vwCl (w, .inr (6, [.int 0, .int 0, .int 0, .null, .null, .null, .null, .null])) H0) {n : Nat} (hn : n ≤ 8) : KC l yX6_init wsX6_init 1 20 4 88 D cs B0 H0 [.ref w, .int (nI n)] (Qv (fun H => ∃ κ1, KX κ κ1 ∧ WT B0 D cs T κ1 H ∧ Fr B0 [] κ H0 H ∧ T2 κ1 w 7 11 ∧ κ1 w = (7, 11, 0, 0))) := by
  refine KC.of cX6_init 2 none (by decide) rfl (Nat.le_of_ble_eq_true rfl) ?_
  intro p e s m below meth c ls hx hb hr hml hown hts hlocks hin hN hE hH0 hl
  have hown : s.vm.findClass RX6 = some m.cls := hown
  have hl : lv_has ls 2 [(0, .ref w), (1, .int (nI n))] := hl
  have hL : OkL B0 [] := OkL.nil
  have hF : Fr B0 [] κ H0 H0 := Fr.rf
  have hP : va_P D vwCl [(w, .inr (6, [.int 0, .int 0, .int 0, .null, .null, .null, .null, .null]))] _ := va_P.cons hwa va_P.nil
  have hb0 : B0 ≤ H0.size := Nat.le_trans hwb (Nat.le_of_lt hwa.lt)
  refine lv_aload_n hx hb dX6_init_0 rfl (lv_at hl 0 rfl) ?_
  refine W.objInit hx hb hown (hts _ mX6_init_1) (hts _ mX6_init_2) (hts _ mX6_init_3) rfl (by rw [hml]; exact hl.1) rfl dX6_init_1 (Nat.le_of_ble_eq_true rfl) (Nat.le_of_ble_eq_true rfl) ?_
  refine W.eq (g2 := F0 m 4 ls []) rfl ?_
  refine lv_aload_n hx hb dX6_init_4 rfl (lv_at hl 0 rfl) ?_
  refine lv_bipush (v := 8) hx hb dX6_init_5 (by decide) ?_
  have hB : Bx B0 D _ [(w, .inr (6, [.int 0, .int 0, .int 0, .null, .null, .null, .null, .null]))] [] _ _ := Bx.of (fun a => (κ a).1) hL hP (fa_c hwb fa_n) (by simp only [List.map_cons, List.map_nil, hfw]; decide)
  refine nw_a (atype := .boolean) (ty := .boolean) (N' := 8) (a0 := (8, .inl (fun _ => 0))) 2 hN rfl hx hb (hts _ mX6_init_4) rfl (fun _ => rfl) (nI_pos (n := 8) (by omega)) (nI_clamp (n := 8) (by omega)) (show 8 * _ ≤ _ by simp only [componentBytes]; omega) (show 0 + 1 ≤ 4 by omega) (show 0 + 8 ≤ 88 by omega) dX6_init_7 (fun q1953 H heq1953 hzq1953 hoq1953 hatq1953 => ?_)
  have hgeq1953 : _ ≤ q1953 := Nat.le_trans hB.2.2.1 (Nat.le_of_eq heq1953.symm)
  have hbq1953 : B0 ≤ q1953 := Nat.le_trans hb0 hgeq1953
  have hfq1953 : (κ q1953).1 = 0 := hT.fresh hgeq1953
  have hB := hB.nwm heq1953 hzq1953 hoq1953 hatq1953 hb0
  have hB : Bx B0 D _ [(w, .inr (6, [.int 0, .int 0, .int 0, .null, .null, .null, .null, .null])), (q1953, .inl (cs 2, 8, .inl (fun _ => 0)))] [q1953] _ _ := hB
  refine b_putF (D := D) (ci := 6) (v := .ref q1953) (ty := .array .boolean) (C := RX6) (T := TX6) (N := 8) hx hb hts iX6_init_6 tyX6 tyX6_ok nmX6 hown hN hB 0 rfl rfl 4 (by decide) (hts _ mX6_init_5) (fun _ h9 => h9) rfl hin rfl (by decide +kernel) rfl rfl (Nat.le_of_ble_eq_true rfl) (.inl rfl) dX6_init_9 (fun H locs hB => ?_)
  have hB : Bx B0 D _ [(w, .inr (6, [.int 0, .int 0, .int 0, .null, .ref q1953, .null, .null, .null])), (q1953, .inl (cs 2, 8, .inl (fun _ => 0)))] [w, q1953] _ _ := hB
  refine lv_aload_n hx hb dX6_init_12 rfl (lv_at hl 0 rfl) ?_
  refine lv_bipush (v := 8) hx hb dX6_init_13 (by decide) ?_
  refine nw_a (atype := .int) (ty := .int) (N' := 8) (a0 := (8, .inl (fun _ => 0))) 0 hN rfl hx hb (hts _ mX6_init_6) rfl (fun _ => rfl) (nI_pos (n := 8) (by omega)) (nI_clamp (n := 8) (by omega)) (show 8 * _ ≤ _ by simp only [componentBytes]; omega) (show 1 + 1 ≤ 4 by omega) (show (0 + 8) + 8 ≤ 88 by omega) dX6_init_15 (fun q1954 H heq1954 hzq1954 hoq1954 hatq1954 => ?_)
  have hgeq1954 : _ ≤ q1954 := Nat.le_trans hB.2.2.1 (Nat.le_of_eq heq1954.symm)
  have hbq1954 : B0 ≤ q1954 := Nat.le_trans hb0 hgeq1954
  have hfq1954 : (κ q1954).1 = 0 := hT.fresh hgeq1954
  have hB := hB.nwm heq1954 hzq1954 hoq1954 hatq1954 hb0
  have hB : Bx B0 D _ [(w, .inr (6, [.int 0, .int 0, .int 0, .null, .ref q1953, .null, .null, .null])), (q1953, .inl (cs 2, 8, .inl (fun _ => 0))), (q1954, .inl (cs 0, 8, .inl (fun _ => 0)))] [q1954, w, q1953] _ _ := hB
  refine b_putF (D := D) (ci := 6) (v := .ref q1954) (ty := .array .int) (C := RX6) (T := TX6) (N := 8) hx hb hts iX6_init_6 tyX6 tyX6_ok nmX6 hown hN hB 0 rfl rfl 5 (by decide) (hts _ mX6_init_7) (fun _ h9 => h9) rfl hin rfl (by decide +kernel) rfl rfl (Nat.le_of_ble_eq_true rfl) (.inr ⟨rfl, List.mem_of_getElem? (i := 1) rfl⟩) dX6_init_17 (fun H locs hB => ?_)
  have hB : Bx B0 D _ [(w, .inr (6, [.int 0, .int 0, .int 0, .null, .ref q1953, .ref q1954, .null, .null])), (q1953, .inl (cs 2, 8, .inl (fun _ => 0))), (q1954, .inl (cs 0, 8, .inl (fun _ => 0)))] [q1954, w, q1953] _ _ := hB
  refine lv_aload_n hx hb dX6_init_20 rfl (lv_at hl 0 rfl) ?_
  refine lv_bipush (v := 8) hx hb dX6_init_21 (by decide) ?_
  refine nw_a (atype := .int) (ty := .int) (N' := 8) (a0 := (8, .inl (fun _ => 0))) 0 hN rfl hx hb (hts _ mX6_init_6) rfl (fun _ => rfl) (nI_pos (n := 8) (by omega)) (nI_clamp (n := 8) (by omega)) (show 8 * _ ≤ _ by simp only [componentBytes]; omega) (show 2 + 1 ≤ 4 by omega) (show ((0 + 8) + 8) + 8 ≤ 88 by omega) dX6_init_23 (fun q1955 H heq1955 hzq1955 hoq1955 hatq1955 => ?_)
  have hgeq1955 : _ ≤ q1955 := Nat.le_trans hB.2.2.1 (Nat.le_of_eq heq1955.symm)
  have hbq1955 : B0 ≤ q1955 := Nat.le_trans hb0 hgeq1955
  have hfq1955 : (κ q1955).1 = 0 := hT.fresh hgeq1955
  have hB := hB.nwm heq1955 hzq1955 hoq1955 hatq1955 hb0
  have hB : Bx B0 D _ [(w, .inr (6, [.int 0, .int 0, .int 0, .null, .ref q1953, .ref q1954, .null, .null])), (q1953, .inl (cs 2, 8, .inl (fun _ => 0))), (q1954, .inl (cs 0, 8, .inl (fun _ => 0))), (q1955, .inl (cs 0, 8, .inl (fun _ => 0)))] [q1955, q1954, w, q1953] _ _ := hB
  refine b_putF (D := D) (ci := 6) (v := .ref q1955) (ty := .array .int) (C := RX6) (T := TX6) (N := 8) hx hb hts iX6_init_6 tyX6 tyX6_ok nmX6 hown hN hB 0 rfl rfl 6 (by decide) (hts _ mX6_init_8) (fun _ h9 => h9) rfl hin rfl (by decide +kernel) rfl rfl (Nat.le_of_ble_eq_true rfl) (.inr ⟨rfl, List.mem_of_getElem? (i := 2) rfl⟩) dX6_init_25 (fun H locs hB => ?_)
  have hB : Bx B0 D _ [(w, .inr (6, [.int 0, .int 0, .int 0, .null, .ref q1953, .ref q1954, .ref q1955, .null])), (q1953, .inl (cs 2, 8, .inl (fun _ => 0))), (q1954, .inl (cs 0, 8, .inl (fun _ => 0))), (q1955, .inl (cs 0, 8, .inl (fun _ => 0)))] [q1955, q1954, w, q1953] _ _ := hB
  refine lv_aload_n hx hb dX6_init_28 rfl (lv_at hl 0 rfl) ?_
  refine lv_bipush (v := 64) hx hb dX6_init_29 (by decide) ?_
  refine nw_a (atype := .int) (ty := .int) (N' := 64) (a0 := (64, .inl (fun _ => 0))) 0 hN rfl hx hb (hts _ mX6_init_6) rfl (fun _ => rfl) (nI_pos (n := 64) (by omega)) (nI_clamp (n := 64) (by omega)) (show 64 * _ ≤ _ by simp only [componentBytes]; omega) (show 3 + 1 ≤ 4 by omega) (show (((0 + 8) + 8) + 8) + 64 ≤ 88 by omega) dX6_init_31 (fun q1956 H heq1956 hzq1956 hoq1956 hatq1956 => ?_)
  have hgeq1956 : _ ≤ q1956 := Nat.le_trans hB.2.2.1 (Nat.le_of_eq heq1956.symm)
  have hbq1956 : B0 ≤ q1956 := Nat.le_trans hb0 hgeq1956
  have hfq1956 : (κ q1956).1 = 0 := hT.fresh hgeq1956
  have hB := hB.nwm heq1956 hzq1956 hoq1956 hatq1956 hb0
  have hB : Bx B0 D _ [(w, .inr (6, [.int 0, .int 0, .int 0, .null, .ref q1953, .ref q1954, .ref q1955, .null])), (q1953, .inl (cs 2, 8, .inl (fun _ => 0))), (q1954, .inl (cs 0, 8, .inl (fun _ => 0))), (q1955, .inl (cs 0, 8, .inl (fun _ => 0))), (q1956, .inl (cs 0, 64, .inl (fun _ => 0)))] [q1956, q1955, q1954, w, q1953] _ _ := hB
  refine b_putF (D := D) (ci := 6) (v := .ref q1956) (ty := .array .int) (C := RX6) (T := TX6) (N := 8) hx hb hts iX6_init_6 tyX6 tyX6_ok nmX6 hown hN hB 0 rfl rfl 7 (by decide) (hts _ mX6_init_9) (fun _ h9 => h9) rfl hin rfl (by decide +kernel) rfl rfl (Nat.le_of_ble_eq_true rfl) (.inr ⟨rfl, List.mem_of_getElem? (i := 3) rfl⟩) dX6_init_33 (fun H locs hB => ?_)
  have hB : Bx B0 D _ [(w, .inr (6, [.int 0, .int 0, .int 0, .null, .ref q1953, .ref q1954, .ref q1955, .ref q1956])), (q1953, .inl (cs 2, 8, .inl (fun _ => 0))), (q1954, .inl (cs 0, 8, .inl (fun _ => 0))), (q1955, .inl (cs 0, 8, .inl (fun _ => 0))), (q1956, .inl (cs 0, 64, .inl (fun _ => 0)))] [q1956, q1955, q1954, w, q1953] _ _ := hB
  refine lv_aload_n hx hb dX6_init_36 rfl (lv_at hl 0 rfl) ?_
  refine lv_iload_n hx hb dX6_init_37 rfl (lv_at hl 1 rfl) ?_
  refine b_putF (D := D) (ci := 6) (v := .int (nI n)) (ty := .int) (C := RX6) (T := TX6) (N := 8) hx hb hts iX6_init_6 tyX6 tyX6_ok nmX6 hown hN hB 0 rfl rfl 0 (by decide) (hts _ mX6_init_10) (fun _ h9 => h9) rfl hin rfl (by decide +kernel) rfl rfl (Nat.le_of_ble_eq_true rfl) (.inr ⟨rfl, List.mem_of_getElem? (i := 3) rfl⟩) dX6_init_38 (fun H locs hB => ?_)
  have hB : Bx B0 D _ [(w, .inr (6, [.int (nI n), .int 0, .int 0, .null, .ref q1953, .ref q1954, .ref q1955, .ref q1956])), (q1953, .inl (cs 2, 8, .inl (fun _ => 0))), (q1954, .inl (cs 0, 8, .inl (fun _ => 0))), (q1955, .inl (cs 0, 8, .inl (fun _ => 0))), (q1956, .inl (cs 0, 64, .inl (fun _ => 0)))] [q1956, q1955, q1954, w, q1953] _ _ := hB
  obtain ⟨κ1957, hκ1957⟩ : ∃ κ9 : KM, κ9 = (ku (ku (ku (ku (ku κ w (7, 11, 0, 0)) q1953 (18, 11, 0, 0)) q1954 (19, 11, 0, 0)) q1955 (19, 11, 0, 0)) q1956 (20, 11, 0, 0)) := ⟨_, rfl⟩
  have hx1957 : KX κ κ1957 := by rw [hκ1957]; exact (((((KX.ku hfw).tr (KX.ku (by rw [ku_n (fun e9 => absurd (hB.2.1.1 1 0 _ _ rfl rfl e9) (by decide))]; exact hfq1953))).tr (KX.ku (by rw [ku_n (fun e9 => absurd (hB.2.1.1 2 1 _ _ rfl rfl e9) (by decide)), ku_n (fun e9 => absurd (hB.2.1.1 2 0 _ _ rfl rfl e9) (by decide))]; exact hfq1954))).tr (KX.ku (by rw [ku_n (fun e9 => absurd (hB.2.1.1 3 2 _ _ rfl rfl e9) (by decide)), ku_n (fun e9 => absurd (hB.2.1.1 3 1 _ _ rfl rfl e9) (by decide)), ku_n (fun e9 => absurd (hB.2.1.1 3 0 _ _ rfl rfl e9) (by decide))]; exact hfq1955))).tr (KX.ku (by rw [ku_n (fun e9 => absurd (hB.2.1.1 4 3 _ _ rfl rfl e9) (by decide)), ku_n (fun e9 => absurd (hB.2.1.1 4 2 _ _ rfl rfl e9) (by decide)), ku_n (fun e9 => absurd (hB.2.1.1 4 1 _ _ rfl rfl e9) (by decide)), ku_n (fun e9 => absurd (hB.2.1.1 4 0 _ _ rfl rfl e9) (by decide))]; exact hfq1956)))
  have ew : κ1957 w = (7, 11, 0, 0) := by rw [hκ1957, ku_n (fun e9 => absurd (hB.2.1.1 0 4 _ _ rfl rfl e9) (by decide)), ku_n (fun e9 => absurd (hB.2.1.1 0 3 _ _ rfl rfl e9) (by decide)), ku_n (fun e9 => absurd (hB.2.1.1 0 2 _ _ rfl rfl e9) (by decide)), ku_n (fun e9 => absurd (hB.2.1.1 0 1 _ _ rfl rfl e9) (by decide)), ku_a]
  have hw : T2 κ1957 w 7 11 := ⟨by rw [ew], by rw [ew]⟩
  have eq1953 : κ1957 q1953 = (18, 11, 0, 0) := by rw [hκ1957, ku_n (fun e9 => absurd (hB.2.1.1 1 4 _ _ rfl rfl e9) (by decide)), ku_n (fun e9 => absurd (hB.2.1.1 1 3 _ _ rfl rfl e9) (by decide)), ku_n (fun e9 => absurd (hB.2.1.1 1 2 _ _ rfl rfl e9) (by decide)), ku_a]
  have hq1953 : T2 κ1957 q1953 18 11 := ⟨by rw [eq1953], by rw [eq1953]⟩
  have eq1954 : κ1957 q1954 = (19, 11, 0, 0) := by rw [hκ1957, ku_n (fun e9 => absurd (hB.2.1.1 2 4 _ _ rfl rfl e9) (by decide)), ku_n (fun e9 => absurd (hB.2.1.1 2 3 _ _ rfl rfl e9) (by decide)), ku_a]
  have hq1954 : T2 κ1957 q1954 19 11 := ⟨by rw [eq1954], by rw [eq1954]⟩
  have eq1955 : κ1957 q1955 = (19, 11, 0, 0) := by rw [hκ1957, ku_n (fun e9 => absurd (hB.2.1.1 3 4 _ _ rfl rfl e9) (by decide)), ku_a]
  have hq1955 : T2 κ1957 q1955 19 11 := ⟨by rw [eq1955], by rw [eq1955]⟩
  have eq1956 : κ1957 q1956 = (20, 11, 0, 0) := by rw [hκ1957, ku_a]
  have hq1956 : T2 κ1957 q1956 20 11 := ⟨by rw [eq1956], by rw [eq1956]⟩
  have hx9 := hx1957
  have hT : WT B0 D cs T κ1957 _ := hT.closeN hB hx1957 (fun a9 h9 => by rw [hκ1957, ku_n (fun e9 => h9 (by rw [e9]; exact List.mem_of_getElem? (i := 0) rfl)), ku_n (fun e9 => h9 (by rw [e9]; exact List.mem_of_getElem? (i := 1) rfl)), ku_n (fun e9 => h9 (by rw [e9]; exact List.mem_of_getElem? (i := 2) rfl)), ku_n (fun e9 => h9 (by rw [e9]; exact List.mem_of_getElem? (i := 4) rfl)), ku_n (fun e9 => h9 (by rw [e9]; exact List.mem_of_getElem? (i := 3) rfl))]) ⟨⟨4, _, rfl, ok_20 hq1956.1 ⟨_, rfl, (fun _ _ => ⟨0, Nat.zero_le _, rfl⟩)⟩⟩, ⟨⟨3, _, rfl, ok_19 hq1955.1 ⟨_, rfl⟩⟩, ⟨⟨2, _, rfl, ok_19 hq1954.1 ⟨_, rfl⟩⟩, ⟨⟨0, _, rfl, ok_7 hw.1 ⟨_, _, _, _, _, _, _, _, rfl, (by omega), (Or.inl rfl), (Or.inl (by rw [ew]; decide)), ⟨hq1953.1, by rw [ew]; exact hq1953.2⟩, ⟨hq1954.1, by rw [ew]; exact hq1954.2⟩, ⟨hq1955.1, by rw [ew]; exact hq1955.2⟩, ⟨hq1956.1, by rw [ew]; exact hq1956.2⟩⟩⟩, ⟨⟨1, _, rfl, ok_18 hq1953.1 ⟨_, rfl, (fun _ _ => Or.inl rfl)⟩⟩, trivial⟩⟩⟩⟩⟩
  have hF : Fr B0 [] κ H0 _ := hF.closeN hB (fa_c (fun h9 => absurd hfq1956 h9) (fa_c (fun h9 => absurd hfq1955 h9) (fa_c (fun h9 => absurd hfq1954 h9) (fa_c (fun h9 => absurd hfw h9) (fa_c (fun h9 => absurd hfq1953 h9) fa_n)))))
  have hL : OkL B0 _ := hB.2.2.2.2.2
  have hKF : KF κ κ1957 := hx1957.f
  have hKX : KX κ κ1957 := hx1957
  have hP : va_P D vwCl [(w, .inr (6, [.int (nI n), .int 0, .int 0, .null, .ref q1953, .ref q1954, .ref q1955, .ref q1956])), (q1953, .inl (cs 2, 8, .inl (fun _ => 0))), (q1954, .inl (cs 0, 8, .inl (fun _ => 0))), (q1955, .inl (cs 0, 8, .inl (fun _ => 0))), (q1956, .inl (cs 0, 64, .inl (fun _ => 0)))] _ := hB.1
  exact en_v hx hb hr hlocks hL (show 4 ≤ 4 by omega) (show ((((0 + 8) + 8) + 8) + 64) ≤ 88 by omega) dX6_init_41 (⟨_, hKX, hT, hF, hw, ew⟩)
theorem mX5_readStatement_7 : (.fieldLink RX5 124 "OneBeat$Reader" "start" "I" : Cond) ∈ wsX5_readStatement := List.mem_of_getElem? (i := 7) (by decide +kernel)
theorem iX5_readStatement_5 : ∀ w ∈ wsX50, w ∈ wsX5_readStatement := fun w h => List.mem_of_mem_drop (List.mem_of_mem_take ((show wsX50 = (wsX5_readStatement.drop 183).take 14 by decide +kernel) ▸ h))
theorem mX5_readStatement_1 : (.fieldLink RX5 65 "OneBeat$Reader" "setup" "LOneBeat$Setup;" : Cond) ∈ wsX5_readStatement := List.mem_of_getElem? (i := 1) (by decide +kernel)
theorem iX5_readStatement_6 : ∀ w ∈ wsX60, w ∈ wsX5_readStatement := fun w h => List.mem_of_mem_drop (List.mem_of_mem_take ((show wsX60 = (wsX5_readStatement.drop 197).take 8 by decide +kernel) ▸ h))
theorem iX5_readStatement_0 : ∀ w ∈ wsX00, w ∈ wsX5_readStatement := fun w h => List.mem_of_mem_drop (List.mem_of_mem_take ((show wsX00 = (wsX5_readStatement.drop 205).take 2 by decide +kernel) ▸ h))
theorem mX5_readStatement_2 : (.classLink RX5 119 RX0 : Cond) ∈ wsX5_readStatement := List.mem_of_getElem? (i := 2) (by decide +kernel)
theorem mX5_readStatement_3 : (.instantiable RX0 2 : Cond) ∈ wsX5_readStatement := List.mem_of_getElem? (i := 3) (by decide +kernel)
theorem mX5_readStatement_4 : (.initialized RX0 : Cond) ∈ wsX5_readStatement := List.mem_of_getElem? (i := 4) (by decide +kernel)
theorem dfl0 : ∀ j, j < 2 → defaultValue (tyX0 j) = vp_V [.null, .null] j := by decide +kernel
theorem mX5_readStatement_5 : (.fieldLink RX5 15 "OneBeat$Reader" "codes" "[I" : Cond) ∈ wsX5_readStatement := List.mem_of_getElem? (i := 5) (by decide +kernel)
theorem mX5_readStatement_6 : (.fieldLink RX5 38 "OneBeat$Reader" "codeCount" "I" : Cond) ∈ wsX5_readStatement := List.mem_of_getElem? (i := 6) (by decide +kernel)
theorem mX5_readStatement_157 : (.instanceMethod yX0_init : Cond) ∈ wsX5_readStatement := List.mem_of_getElem? (i := 157) (by decide +kernel)
theorem mX5_readStatement_156 : (.methodLink RX5 121 yX0_init : Cond) ∈ wsX5_readStatement := List.mem_of_getElem? (i := 156) (by decide +kernel)
theorem hdX0_init_o : yX0_init.cls ≠ "java/lang/invoke/MethodHandle" ∧ yX0_init.cls ≠ "java/lang/invoke/VarHandle" ∧ (parseMethodDescriptor yX0_init.desc).map (fun d => d.parameters.length) = some 2 := by decide +kernel
theorem hdX5_readPatience_v : yX5_readPatience.cls = RX5 ∧ yX5_readPatience.cls ≠ "java/lang/invoke/MethodHandle" ∧ yX5_readPatience.cls ≠ "java/lang/invoke/VarHandle" ∧ (parseMethodDescriptor yX5_readPatience.desc).map (fun d => d.parameters.length) = some 0 := by decide +kernel
theorem hdX5_readNeed_v : yX5_readNeed.cls = RX5 ∧ yX5_readNeed.cls ≠ "java/lang/invoke/MethodHandle" ∧ yX5_readNeed.cls ≠ "java/lang/invoke/VarHandle" ∧ (parseMethodDescriptor yX5_readNeed.desc).map (fun d => d.parameters.length) = some 0 := by decide +kernel
theorem hdX5_readLink_v : yX5_readLink.cls = RX5 ∧ yX5_readLink.cls ≠ "java/lang/invoke/MethodHandle" ∧ yX5_readLink.cls ≠ "java/lang/invoke/VarHandle" ∧ (parseMethodDescriptor yX5_readLink.desc).map (fun d => d.parameters.length) = some 0 := by decide +kernel
theorem hdX5_readClock_v : yX5_readClock.cls = RX5 ∧ yX5_readClock.cls ≠ "java/lang/invoke/MethodHandle" ∧ yX5_readClock.cls ≠ "java/lang/invoke/VarHandle" ∧ (parseMethodDescriptor yX5_readClock.desc).map (fun d => d.parameters.length) = some 0 := by decide +kernel
set_option maxHeartbeats 4000000 in
set_option maxRecDepth 100000 in
theorem c_X5_readStatement {l : Launch} {D : va_G} {cs : Nat → ClassId} {B0 T : Nat} {κ : KM} {H0 : Heap} (hT : WT B0 D cs T κ H0) {w : Nat} (hw : T2 κ w 6 10) (hs0 : ¬ (κ w).2.2.2 = 0) (hsu : T2 κ (κ w).2.2.2 7 11) : KC l yX5_readStatement wsX5_readStatement 21 467 3 618 D cs B0 H0 [.ref w] (Qi (fun r H => ∃ κ1, (∀ a, (κ a).1 ≠ 0 → a ≠ (κ w).2.2.2 → κ1 a = κ a) ∧ WT B0 D cs T κ1 H ∧ Fr B0 [10, 11] κ H0 H ∧ T2 κ1 (κ w).2.2.2 7 11 ∧ (((κ1 (κ w).2.2.2).2.2.1 = (κ (κ w).2.2.2).2.2.1 ∧ Gr H0 H 0 0) ∨ ((κ (κ w).2.2.2).2.2.1 ≠ 1 ∧ (κ1 (κ w).2.2.2).2.2.1 = 1 ∧ Gr H0 H 3 618)) ∧ (r = 0 ∨ r = 1))) := by
  refine KC.of cX5_readStatement 1 (some .boolean) (by decide) rfl (Nat.le_of_ble_eq_true rfl) ?_
  intro p e s m below meth c ls hx hb hr hml hown hts hlocks hin hN hE hH0 hl
  have hown : s.vm.findClass RX5 = some m.cls := hown
  have hl : lv_has ls 1 [(0, .ref w)] := hl
  have hL : OkL B0 [] := OkL.nil
  have hF : Fr B0 [10, 11] κ H0 H0 := Fr.rf
  refine lv_aload_n hx hb dX5_readStatement_0 rfl (lv_at hl 0 rfl) ?_
  refine va_ldcS hx hb hown (hN.s 2 rfl) dX5_readStatement_1 ?_
  refine cv_i (As := [.ref (cs 102)]) (rest := []) (b := w) ⟨hx, hb, hml, hown, hts⟩ (c_X5_isWord hT (w := w) hw (i := 2) (by decide)) (cwV 1 hts gX5_readStatement_X5_isWord rfl rfl rfl hdX5_isWord_v ⟨Nat.le_of_ble_eq_true rfl, Nat.le_of_ble_eq_true rfl⟩) hN hE hL (rcv6 hN hT hw.1) rfl rfl hl.1 (Nat.le_of_ble_eq_true rfl) dX5_readStatement_3 (Nat.zero_le _) (Nat.zero_le _) (fun r1958 H1 locs hL hqr1958 => ?_)
  obtain ⟨h9, hqr1958⟩ := hqr1958; replace h9 := h9.symm; subst h9
  rcases hqr1958 with rfl | rfl
  · refine lv_if_eq (tgt := 14) hx hb dX5_readStatement_6 (by decide) (fun _ => ?_) (fun c9 => absurd (by decide) c9)
    refine lv_aload_n hx hb dX5_readStatement_14 rfl (lv_at hl 0 rfl) ?_
    refine va_ldcS hx hb hown (hN.s 3 rfl) dX5_readStatement_15 ?_
    refine cv_i (As := [.ref (cs 103)]) (rest := []) (b := w) ⟨hx, hb, hml, hown, hts⟩ (c_X5_isWord hT (w := w) hw (i := 3) (by decide)) (cwV 1 hts gX5_readStatement_X5_isWord rfl rfl rfl hdX5_isWord_v ⟨Nat.le_of_ble_eq_true rfl, Nat.le_of_ble_eq_true rfl⟩) hN hE hL (rcv6 hN hT hw.1) rfl rfl hl.1 (Nat.le_of_ble_eq_true rfl) dX5_readStatement_17 (Nat.zero_le _) (Nat.zero_le _) (fun r1959 H1 locs hL hqr1959 => ?_)
    obtain ⟨h9, hqr1959⟩ := hqr1959; replace h9 := h9.symm; subst h9
    rcases hqr1959 with rfl | rfl
    · refine lv_if_eq (tgt := 28) hx hb dX5_readStatement_20 (by decide) (fun _ => ?_) (fun c9 => absurd (by decide) c9)
      refine lv_aload_n hx hb dX5_readStatement_28 rfl (lv_at hl 0 rfl) ?_
      refine va_ldcS hx hb hown (hN.s 4 rfl) dX5_readStatement_29 ?_
      refine cv_i (As := [.ref (cs 104)]) (rest := []) (b := w) ⟨hx, hb, hml, hown, hts⟩ (c_X5_isWord hT (w := w) hw (i := 4) (by decide)) (cwV 1 hts gX5_readStatement_X5_isWord rfl rfl rfl hdX5_isWord_v ⟨Nat.le_of_ble_eq_true rfl, Nat.le_of_ble_eq_true rfl⟩) hN hE hL (rcv6 hN hT hw.1) rfl rfl hl.1 (Nat.le_of_ble_eq_true rfl) dX5_readStatement_31 (Nat.zero_le _) (Nat.zero_le _) (fun r1960 H1 locs hL hqr1960 => ?_)
      obtain ⟨h9, hqr1960⟩ := hqr1960; replace h9 := h9.symm; subst h9
      rcases hqr1960 with rfl | rfl
      · refine lv_if_eq (tgt := 52) hx hb dX5_readStatement_34 (by decide) (fun _ => ?_) (fun c9 => absurd (by decide) c9)
        refine lv_aload_n hx hb dX5_readStatement_52 rfl (lv_at hl 0 rfl) ?_
        refine va_ldcS hx hb hown (hN.s 5 rfl) dX5_readStatement_53 ?_
        refine cv_i (As := [.ref (cs 105)]) (rest := []) (b := w) ⟨hx, hb, hml, hown, hts⟩ (c_X5_isWord hT (w := w) hw (i := 5) (by decide)) (cwV 1 hts gX5_readStatement_X5_isWord rfl rfl rfl hdX5_isWord_v ⟨Nat.le_of_ble_eq_true rfl, Nat.le_of_ble_eq_true rfl⟩) hN hE hL (rcv6 hN hT hw.1) rfl rfl hl.1 (Nat.le_of_ble_eq_true rfl) dX5_readStatement_55 (Nat.zero_le _) (Nat.zero_le _) (fun r1961 H1 locs hL hqr1961 => ?_)
        obtain ⟨h9, hqr1961⟩ := hqr1961; replace h9 := h9.symm; subst h9
        rcases hqr1961 with rfl | rfl
        · refine lv_if_eq (tgt := 76) hx hb dX5_readStatement_58 (by decide) (fun _ => ?_) (fun c9 => absurd (by decide) c9)
          refine lv_aload_n hx hb dX5_readStatement_76 rfl (lv_at hl 0 rfl) ?_
          refine va_ldcS hx hb hown (hN.s 6 rfl) dX5_readStatement_77 ?_
          refine cv_i (As := [.ref (cs 106)]) (rest := []) (b := w) ⟨hx, hb, hml, hown, hts⟩ (c_X5_isWord hT (w := w) hw (i := 6) (by decide)) (cwV 1 hts gX5_readStatement_X5_isWord rfl rfl rfl hdX5_isWord_v ⟨Nat.le_of_ble_eq_true rfl, Nat.le_of_ble_eq_true rfl⟩) hN hE hL (rcv6 hN hT hw.1) rfl rfl hl.1 (Nat.le_of_ble_eq_true rfl) dX5_readStatement_79 (Nat.zero_le _) (Nat.zero_le _) (fun r1962 H1 locs hL hqr1962 => ?_)
          obtain ⟨h9, hqr1962⟩ := hqr1962; replace h9 := h9.symm; subst h9
          rcases hqr1962 with rfl | rfl
          · refine lv_if_eq (tgt := 133) hx hb dX5_readStatement_82 (by decide) (fun _ => ?_) (fun c9 => absurd (by decide) c9)
            refine lv_aload_n hx hb dX5_readStatement_133 rfl (lv_at hl 0 rfl) ?_
            refine lv_bipush (v := (-2)) hx hb dX5_readStatement_134 (by decide) ?_
            refine lv_aload_n hx hb dX5_readStatement_136 rfl (lv_at hl 0 rfl) ?_
            obtain ⟨hb1963, e1963, hat1963, hk1963⟩ := hT.o6 hw.1
            obtain ⟨f1963_0, f1963_2, f1963_3, f1963_4, f1963_5, f1963_6, f1963_7, f1963_8, f1963_9, f1963_10, f1963_11, f1963_12, f1963_13, rfl, c1963_1, c1963_2, c1963_3, c1963_5, c1963_10, t1963_0, t1963_9, c1963_11, c1963_p2⟩ := hk1963
            obtain rfl : f1963_11 = .ref (κ w).2.2.2 := c1963_p2.resolve_left hs0
            have hP : va_P D vwCl [(w, .inr (5, [.ref f1963_0, .int (nI ((κ w).2.2.1)), .int (nI f1963_2), .int (nI f1963_3), .int f1963_4, .int (nI f1963_5), .int f1963_6, .int f1963_7, .int f1963_8, .ref f1963_9, .int (nI f1963_10), .ref (κ w).2.2.2, .int f1963_12, .int f1963_13]))] _ := va_P.cons hat1963 va_P.nil
            refine va_get (D := D) (ci := 5) (v := .int (nI f1963_5)) (C := RX5) (T := TX5) (N := 14) hx hb hts iX5_readStatement_5 hown hN.1 hP 0 rfl rfl 5 (by decide) (hts _ mX5_readStatement_7) (fun _ h9 => h9) rfl dX5_readStatement_137 ?_
            refine cv_i (As := [.int (-2), .int (nI f1963_5)]) (rest := []) (b := w) ⟨hx, hb, hml, hown, hts⟩ (c_X5_fail hT (w := w) hw (x := (-2)) (y := (nI f1963_5))) (cwV 2 hts gX5_readStatement_X5_fail rfl rfl rfl hdX5_fail_v ⟨Nat.le_of_ble_eq_true rfl, Nat.le_of_ble_eq_true rfl⟩) hN hE hL (rcv6 hN hT hw.1) rfl rfl hl.1 (Nat.le_of_ble_eq_true rfl) dX5_readStatement_140 (Nat.zero_le _) (Nat.zero_le _) (fun r1964 H1 locs hL hqr1964 => ?_)
            obtain ⟨hT1, hF1, hqr1964⟩ := hqr1964
            have hF := hF.tr (hF1.mono (by simp))
            have hT := hT1
            obtain rfl := hqr1964
            refine W.know (fun hg => ?_)
            rw [hH0] at hg
            exact en_i hx hb hr hlocks hL rfl (Nat.zero_le _) (Nat.zero_le _) dX5_readStatement_143 (⟨_, (fun _ _ _ => rfl), hT, hF, hsu, Or.inl ⟨rfl, hg⟩, Or.inl rfl⟩)
          · refine lv_if_eq (tgt := 133) hx hb dX5_readStatement_82 (by decide) (fun c9 => absurd c9 (by decide)) (fun _ => ?_)
            refine lv_aload_n hx hb dX5_readStatement_85 rfl (lv_at hl 0 rfl) ?_
            obtain ⟨hb1965, e1965, hat1965, hk1965⟩ := hT.o6 hw.1
            obtain ⟨f1965_0, f1965_2, f1965_3, f1965_4, f1965_5, f1965_6, f1965_7, f1965_8, f1965_9, f1965_10, f1965_11, f1965_12, f1965_13, rfl, c1965_1, c1965_2, c1965_3, c1965_5, c1965_10, t1965_0, t1965_9, c1965_11, c1965_p2⟩ := hk1965
            obtain rfl : f1965_11 = .ref (κ w).2.2.2 := c1965_p2.resolve_left hs0
            have hP : va_P D vwCl [(w, .inr (5, [.ref f1965_0, .int (nI ((κ w).2.2.1)), .int (nI f1965_2), .int (nI f1965_3), .int f1965_4, .int (nI f1965_5), .int f1965_6, .int f1965_7, .int f1965_8, .ref f1965_9, .int (nI f1965_10), .ref (κ w).2.2.2, .int f1965_12, .int f1965_13]))] _ := va_P.cons hat1965 va_P.nil
            refine va_get (D := D) (ci := 5) (v := .ref (κ w).2.2.2) (C := RX5) (T := TX5) (N := 14) hx hb hts iX5_readStatement_5 hown hN.1 hP 0 rfl rfl 11 (by decide) (hts _ mX5_readStatement_1) (fun _ h9 => h9) rfl dX5_readStatement_86 ?_
            obtain ⟨hb1966, e1966, hat1966, hk1966⟩ := hT.o7 hsu.1
            obtain ⟨f1966_0, f1966_1, f1966_2, f1966_3, f1966_4, f1966_5, f1966_6, f1966_7, rfl, c1966_0, c1966_3, c1966_mg, t1966_4, t1966_5, t1966_6, t1966_7⟩ := hk1966
            rw [hsu.2] at t1966_4
            rw [hsu.2] at t1966_5
            rw [hsu.2] at t1966_6
            rw [hsu.2] at t1966_7
            have hP : va_P D vwCl [((κ w).2.2.2, .inr (6, [.int (nI f1966_0), .int f1966_1, .int f1966_2, f1966_3, .ref f1966_4, .ref f1966_5, .ref f1966_6, .ref f1966_7])), (w, .inr (5, [.ref f1965_0, .int (nI ((κ w).2.2.1)), .int (nI f1965_2), .int (nI f1965_3), .int f1965_4, .int (nI f1965_5), .int f1965_6, .int f1965_7, .int f1965_8, .ref f1965_9, .int (nI f1965_10), .ref (κ w).2.2.2, .int f1965_12, .int f1965_13]))] _ := va_P.cons hat1966 hP
            rcases c1966_3 with rfl | ⟨a1967, rfl, ta1967⟩
            · refine va_getN (D := D) (ci := 6) (v := .null) (C := RX6) (T := TX6) (N := 8) hx hb hts iX5_readStatement_6 hown hN.1 hP 0 rfl rfl 3 (by decide) (hN.f 44 rfl) (fun _ h9 => h9) rfl dX5_readStatement_89 ?_
              refine lv_ifnonnullN hx hb dX5_readStatement_92 ?_
              have hmg1 : (κ (κ w).2.2.2).2.2.1 ≠ 1 := (c1966_mg).resolve_right (by rintro ⟨_, h9⟩; cases h9)
              refine lv_aload_n hx hb dX5_readStatement_95 rfl (lv_at hl 0 rfl) ?_
              refine cv_v (As := []) (rest := []) (b := w) ⟨hx, hb, hml, hown, hts⟩ (c_X5_step hT (w := w) hw) (cwV 0 hts gX5_readStatement_X5_step rfl rfl rfl hdX5_step_v ⟨Nat.le_of_ble_eq_true rfl, Nat.le_of_ble_eq_true rfl⟩) hN hE hL (rcv6 hN hT hw.1) rfl rfl hl.1 (Nat.le_of_ble_eq_true rfl) dX5_readStatement_96 (Nat.zero_le _) (Nat.zero_le _) (fun H1 locs hL hqr1968 => ?_)
              obtain ⟨hT1, hF1, hqr1968⟩ := hqr1968
              have hP : va_P D vwCl [((κ w).2.2.2, .inr (6, [.int (nI f1966_0), .int f1966_1, .int f1966_2, .null, .ref f1966_4, .ref f1966_5, .ref f1966_6, .ref f1966_7]))] _ := hF1.hP (hP.sub [0] rfl) (fa_c ⟨by rw [hsu.1]; decide, by rw [hsu.2]; first | decide | (simp; done) | (simp; omega)⟩ fa_n)
              have hF := hF.tr (hF1.mono (by simp))
              have hT := hT1
              have f1969 := hqr1968
              refine lv_aload_n hx hb dX5_readStatement_99 rfl (lv_at hl 0 rfl) ?_
              refine lv_iconst (v := 0) hx hb dX5_readStatement_100 (by decide) ?_
              refine cv_i (As := [.int 0]) (rest := []) (b := w) ⟨hx, hb, hml, hown, hts⟩ (c_X5_readSum_d0 hT (w := w) hw) (cwV 1 hts gX5_readStatement_X5_readSum rfl rfl rfl hdX5_readSum_v ⟨Nat.le_of_ble_eq_true rfl, Nat.le_of_ble_eq_true rfl⟩) hN hE hL (rcv6 hN hT hw.1) rfl rfl hl.1 (Nat.le_of_ble_eq_true rfl) dX5_readStatement_101 (Nat.zero_le _) (Nat.zero_le _) (fun r1970 H1 locs hL hqr1970 => ?_)
              obtain ⟨hT1, hF1, hqr1970⟩ := hqr1970
              have hP : va_P D vwCl [((κ w).2.2.2, .inr (6, [.int (nI f1966_0), .int f1966_1, .int f1966_2, .null, .ref f1966_4, .ref f1966_5, .ref f1966_6, .ref f1966_7]))] _ := hF1.hP (hP.sub [0] rfl) (fa_c ⟨by rw [hsu.1]; decide, by rw [hsu.2]; first | decide | (simp; done) | (simp; omega)⟩ fa_n)
              have hF := hF.tr (hF1.mono (by simp))
              have hT := hT1
              rcases hqr1970 with rfl | rfl
              · refine lv_if_ne (tgt := 109) hx hb dX5_readStatement_104 (by decide) (fun c9 => absurd (by decide) c9) (fun _ => ?_)
                refine lv_iconst (v := 0) hx hb dX5_readStatement_107 (by decide) ?_
                refine W.know (fun hg => ?_)
                rw [hH0] at hg
                exact en_i hx hb hr hlocks hL rfl (Nat.zero_le _) (Nat.zero_le _) dX5_readStatement_108 (⟨_, (fun _ _ _ => rfl), hT, hF, hsu, Or.inl ⟨rfl, hg⟩, Or.inl rfl⟩)
              · refine lv_if_ne (tgt := 109) hx hb dX5_readStatement_104 (by decide) (fun _ => ?_) (fun c9 => absurd c9 (by decide))
                refine lv_aload_n hx hb dX5_readStatement_109 rfl (lv_at hl 0 rfl) ?_
                obtain ⟨hb1971, e1971, hat1971, hk1971⟩ := hT.o6 hw.1
                obtain ⟨f1971_0, f1971_2, f1971_3, f1971_4, f1971_5, f1971_6, f1971_7, f1971_8, f1971_9, f1971_10, f1971_11, f1971_12, f1971_13, rfl, c1971_1, c1971_2, c1971_3, c1971_5, c1971_10, t1971_0, t1971_9, c1971_11, c1971_p2⟩ := hk1971
                obtain rfl : f1971_11 = .ref (κ w).2.2.2 := c1971_p2.resolve_left hs0
                have hP : va_P D vwCl [(w, .inr (5, [.ref f1971_0, .int (nI ((κ w).2.2.1)), .int (nI f1971_2), .int (nI f1971_3), .int f1971_4, .int (nI f1971_5), .int f1971_6, .int f1971_7, .int f1971_8, .ref f1971_9, .int (nI f1971_10), .ref (κ w).2.2.2, .int f1971_12, .int f1971_13])), ((κ w).2.2.2, .inr (6, [.int (nI f1966_0), .int f1966_1, .int f1966_2, .null, .ref f1966_4, .ref f1966_5, .ref f1966_6, .ref f1966_7]))] _ := va_P.cons hat1971 hP
                refine va_get (D := D) (ci := 5) (v := .ref (κ w).2.2.2) (C := RX5) (T := TX5) (N := 14) hx hb hts iX5_readStatement_5 hown hN.1 hP 0 rfl rfl 11 (by decide) (hts _ mX5_readStatement_1) (fun _ h9 => h9) rfl dX5_readStatement_110 ?_
                have hb0 : B0 ≤ _ := hT.b0 hw (by decide)
                have hB : Bx B0 D _ [(w, .inr (5, [.ref f1971_0, .int (nI ((κ w).2.2.1)), .int (nI f1971_2), .int (nI f1971_3), .int f1971_4, .int (nI f1971_5), .int f1971_6, .int f1971_7, .int f1971_8, .ref f1971_9, .int (nI f1971_10), .ref (κ w).2.2.2, .int f1971_12, .int f1971_13])), ((κ w).2.2.2, .inr (6, [.int (nI f1966_0), .int f1966_1, .int f1966_2, .null, .ref f1966_4, .ref f1966_5, .ref f1966_6, .ref f1966_7]))] [] _ _ := Bx.of (fun a => (κ a).1) hL hP (fa_c hb1971 (fa_c hb1966 fa_n)) (by simp only [List.map_cons, List.map_nil, hw.1, hsu.1]; decide)
                refine nw_o (ci := 0) (fs := [.null, .null]) (C := RX0) (T := TX0) (N := 2) hx hb hts iX5_readStatement_0 tyX0 tyX0_ok hown (hts _ mX5_readStatement_2) (hts _ mX5_readStatement_3) (hts _ mX5_readStatement_4) hN rfl dfl0 (show 0 + 1 ≤ 3 by omega) (show 0 + 2 ≤ 618 by omega) dX5_readStatement_113 (fun q1972 H heq1972 hzq1972 hoq1972 hatq1972 => ?_)
                have hgeq1972 : _ ≤ q1972 := Nat.le_trans hB.2.2.1 (Nat.le_of_eq heq1972.symm)
                have hbq1972 : B0 ≤ q1972 := Nat.le_trans hb0 hgeq1972
                have hfq1972 : (κ q1972).1 = 0 := hT.fresh hgeq1972
                have hB := hB.nw heq1972 hzq1972 hoq1972 hatq1972 hb0
                have hB : Bx B0 D _ [(w, .inr (5, [.ref f1971_0, .int (nI ((κ w).2.2.1)), .int (nI f1971_2), .int (nI f1971_3), .int f1971_4, .int (nI f1971_5), .int f1971_6, .int f1971_7, .int f1971_8, .ref f1971_9, .int (nI f1971_10), .ref (κ w).2.2.2, .int f1971_12, .int f1971_13])), ((κ w).2.2.2, .inr (6, [.int (nI f1966_0), .int f1966_1, .int f1966_2, .null, .ref f1966_4, .ref f1966_5, .ref f1966_6, .ref f1966_7])), (q1972, .inr (0, [.null, .null]))] [] _ _ := hB
                refine lv_dup hx hb dX5_readStatement_116 rfl ?_
                refine lv_aload_n hx hb dX5_readStatement_117 rfl (lv_at hl 0 rfl) ?_
                refine va_get (D := D) (ci := 5) (v := .ref f1971_9) (C := RX5) (T := TX5) (N := 14) hx hb hts iX5_readStatement_5 hown hN.1 hB.1 0 rfl rfl 9 (by decide) (hts _ mX5_readStatement_5) (fun _ h9 => h9) rfl dX5_readStatement_118 ?_
                refine lv_aload_n hx hb dX5_readStatement_121 rfl (lv_at hl 0 rfl) ?_
                refine va_get (D := D) (ci := 5) (v := .int (nI f1971_10)) (C := RX5) (T := TX5) (N := 14) hx hb hts iX5_readStatement_5 hown hN.1 hB.1 0 rfl rfl 10 (by decide) (hts _ mX5_readStatement_6) (fun _ h9 => h9) rfl dX5_readStatement_122 ?_
                have hT : WT B0 D cs T κ _ := hT.close hB trivial
                have hF : Fr B0 [10, 11] κ H0 _ := hF.close hB fa_n
                have hL : OkL B0 _ := hB.2.2.2.2.2
                have hP : va_P D vwCl [(w, .inr (5, [.ref f1971_0, .int (nI ((κ w).2.2.1)), .int (nI f1971_2), .int (nI f1971_3), .int f1971_4, .int (nI f1971_5), .int f1971_6, .int f1971_7, .int f1971_8, .ref f1971_9, .int (nI f1971_10), .ref (κ w).2.2.2, .int f1971_12, .int f1971_13])), ((κ w).2.2.2, .inr (6, [.int (nI f1966_0), .int f1966_1, .int f1966_2, .null, .ref f1966_4, .ref f1966_5, .ref f1966_6, .ref f1966_7])), (q1972, .inr (0, [.null, .null]))] _ := hB.1
                refine ci_v (As := [.ref f1971_9, .int (nI f1971_10)]) (rest := [.ref q1972, .ref (κ w).2.2.2]) (b := q1972) ⟨hx, hb, hml, hown, hts⟩ (c_X0_init hT (w := q1972) hfq1972 hbq1972 (hP 2 _ rfl) (v := f1971_9) t1971_9 (n := f1971_10) (by first | omega | decide | assumption)) (cwI 2 hts gX5_readStatement_X0_init rfl rfl rfl (hts _ mX5_readStatement_4) (hts _ mX5_readStatement_156) (hts _ mX5_readStatement_157) rfl hdX0_init_o ⟨Nat.le_of_ble_eq_true rfl, Nat.le_of_ble_eq_true rfl⟩) hN hE hL rfl rfl hl.1 (Nat.le_of_ble_eq_true rfl) dX5_readStatement_125 (show 1 + 2 ≤ 3 by omega) (show (0 + 2) + 616 ≤ 618 by omega) (fun H1 locs hL hqr1973 => ?_)
                obtain ⟨κr1973, hxr1973, hT1, hF1, hqr1973⟩ := hqr1973
                have hF := hF.tr (hF1.mono (by simp))
                have hT := hT1
                have hKF : KF κ κr1973 := hxr1973.f
                have hKX : KX κ κr1973 := hxr1973
                have hw := (hxr1973.f.t2 hw (by decide))
                have hsu := (hxr1973.f.t2 hsu (by decide))
                have hq1972 := hqr1973
                obtain ⟨hb1974, e1974, hat1974, hk1974⟩ := hT.o7 hsu.1
                obtain ⟨f1974_0, f1974_1, f1974_2, f1974_3, f1974_4, f1974_5, f1974_6, f1974_7, rfl, c1974_0, c1974_3, c1974_mg, t1974_4, t1974_5, t1974_6, t1974_7⟩ := hk1974
                rw [hsu.2] at t1974_4
                rw [hsu.2] at t1974_5
                rw [hsu.2] at t1974_6
                rw [hsu.2] at t1974_7
                have hP : va_P D vwCl [((κ w).2.2.2, .inr (6, [.int (nI f1974_0), .int f1974_1, .int f1974_2, f1974_3, .ref f1974_4, .ref f1974_5, .ref f1974_6, .ref f1974_7]))] _ := va_P.cons hat1974 va_P.nil
                have hB : Bx B0 D _ [((κ w).2.2.2, .inr (6, [.int (nI f1974_0), .int f1974_1, .int f1974_2, f1974_3, .ref f1974_4, .ref f1974_5, .ref f1974_6, .ref f1974_7]))] [] _ _ := Bx.of (fun a => (κr1973 a).1) hL hP (fa_c hb1974 fa_n) (by simp only [List.map_cons, List.map_nil, hsu.1]; decide)
                refine b_putN (D := D) (ci := 6) (v := .ref q1972) (ty := .object "OneBeat$Formula") (C := RX6) (T := TX6) (N := 8) hx hb hts iX5_readStatement_6 tyX6 tyX6_ok nmX6 hown hN hB 0 rfl rfl 3 (by decide) (hN.f 44 rfl) (fun _ h9 => h9) rfl (by decide +kernel) rfl rfl (Nat.le_of_ble_eq_true rfl) (.inl rfl) dX5_readStatement_128 (fun H locs hB => ?_)
                have hB : Bx B0 D _ [((κ w).2.2.2, .inr (6, [.int (nI f1974_0), .int f1974_1, .int f1974_2, .ref q1972, .ref f1974_4, .ref f1974_5, .ref f1974_6, .ref f1974_7]))] [(κ w).2.2.2] _ _ := hB
                refine lv_iconst (v := 1) hx hb dX5_readStatement_131 (by decide) ?_
                have hF : Fr B0 [10, 11] κ H0 _ := hF.closeN hB (fa_c (fun h9 => by rw [← (hKF _ h9).2, hsu.2]; simp) fa_n)
                have hT : WT B0 D cs T (kp κr1973 (κ w).2.2.2 1 0) _ := hT.closeK (κ w).2.2.2 1 0 hB (by rw [hsu.1]; decide) (by rw [hsu.1]; decide) (List.mem_of_getElem? (i := 0) rfl) ⟨⟨0, _, rfl, kp_ok (ok_7 (k := ((κr1973 (κ w).2.2.2).1, (κr1973 (κ w).2.2.2).2.1, _, _)) hsu.1 ⟨_, _, _, _, _, _, _, _, rfl, (by omega), (Or.inr ⟨_, rfl, (t2kp hq1972)⟩), (Or.inr ⟨_, rfl⟩), ⟨(t2kp t1974_4).1, by rw [hsu.2]; exact (t2kp t1974_4).2⟩, ⟨(t2kp t1974_5).1, by rw [hsu.2]; exact (t2kp t1974_5).2⟩, ⟨(t2kp t1974_6).1, by rw [hsu.2]; exact (t2kp t1974_6).2⟩, ⟨(t2kp t1974_7).1, by rw [hsu.2]; exact (t2kp t1974_7).2⟩⟩)⟩, trivial⟩
                have hL : OkL B0 _ := hB.2.2.2.2.2
                have hsu := t2kp (x := 1) (y := 0) (a := (κ w).2.2.2) hsu
                refine W.know (fun hg => ?_)
                rw [hH0] at hg
                exact en_i hx hb hr hlocks hL rfl (show 3 ≤ 3 by omega) (show ((0 + 2) + 616) ≤ 618 by omega) dX5_readStatement_132 (⟨_, (fun a h1 h2 => (kp_n h2).trans (hKX a h1)), hT, hF, hsu, Or.inr ⟨hmg1, by rw [kp_a], hg.mono (by omega) (by omega)⟩, Or.inr rfl⟩)
            · refine va_getN (D := D) (ci := 6) (v := .ref a1967) (C := RX6) (T := TX6) (N := 8) hx hb hts iX5_readStatement_6 hown hN.1 hP 0 rfl rfl 3 (by decide) (hN.f 44 rfl) (fun _ h9 => h9) rfl dX5_readStatement_89 ?_
              refine lv_ifnonnull (tgt := 133) hx hb dX5_readStatement_92 (by decide) ?_
              refine lv_aload_n hx hb dX5_readStatement_133 rfl (lv_at hl 0 rfl) ?_
              refine lv_bipush (v := (-2)) hx hb dX5_readStatement_134 (by decide) ?_
              refine lv_aload_n hx hb dX5_readStatement_136 rfl (lv_at hl 0 rfl) ?_
              refine va_get (D := D) (ci := 5) (v := .int (nI f1965_5)) (C := RX5) (T := TX5) (N := 14) hx hb hts iX5_readStatement_5 hown hN.1 hP 1 rfl rfl 5 (by decide) (hts _ mX5_readStatement_7) (fun _ h9 => h9) rfl dX5_readStatement_137 ?_
              refine cv_i (As := [.int (-2), .int (nI f1965_5)]) (rest := []) (b := w) ⟨hx, hb, hml, hown, hts⟩ (c_X5_fail hT (w := w) hw (x := (-2)) (y := (nI f1965_5))) (cwV 2 hts gX5_readStatement_X5_fail rfl rfl rfl hdX5_fail_v ⟨Nat.le_of_ble_eq_true rfl, Nat.le_of_ble_eq_true rfl⟩) hN hE hL (rcv6 hN hT hw.1) rfl rfl hl.1 (Nat.le_of_ble_eq_true rfl) dX5_readStatement_140 (Nat.zero_le _) (Nat.zero_le _) (fun r1975 H1 locs hL hqr1975 => ?_)
              obtain ⟨hT1, hF1, hqr1975⟩ := hqr1975
              have hP : va_P D vwCl [((κ w).2.2.2, .inr (6, [.int (nI f1966_0), .int f1966_1, .int f1966_2, .ref a1967, .ref f1966_4, .ref f1966_5, .ref f1966_6, .ref f1966_7]))] _ := hF1.hP (hP.sub [0] rfl) (fa_c ⟨by rw [hsu.1]; decide, by rw [hsu.2]; first | decide | (simp; done) | (simp; omega)⟩ fa_n)
              have hF := hF.tr (hF1.mono (by simp))
              have hT := hT1
              obtain rfl := hqr1975
              refine W.know (fun hg => ?_)
              rw [hH0] at hg
              exact en_i hx hb hr hlocks hL rfl (Nat.zero_le _) (Nat.zero_le _) dX5_readStatement_143 (⟨_, (fun _ _ _ => rfl), hT, hF, hsu, Or.inl ⟨rfl, hg⟩, Or.inl rfl⟩)
        · refine lv_if_eq (tgt := 76) hx hb dX5_readStatement_58 (by decide) (fun c9 => absurd c9 (by decide)) (fun _ => ?_)
          refine lv_aload_n hx hb dX5_readStatement_61 rfl (lv_at hl 0 rfl) ?_
          obtain ⟨hb1976, e1976, hat1976, hk1976⟩ := hT.o6 hw.1
          obtain ⟨f1976_0, f1976_2, f1976_3, f1976_4, f1976_5, f1976_6, f1976_7, f1976_8, f1976_9, f1976_10, f1976_11, f1976_12, f1976_13, rfl, c1976_1, c1976_2, c1976_3, c1976_5, c1976_10, t1976_0, t1976_9, c1976_11, c1976_p2⟩ := hk1976
          obtain rfl : f1976_11 = .ref (κ w).2.2.2 := c1976_p2.resolve_left hs0
          have hP : va_P D vwCl [(w, .inr (5, [.ref f1976_0, .int (nI ((κ w).2.2.1)), .int (nI f1976_2), .int (nI f1976_3), .int f1976_4, .int (nI f1976_5), .int f1976_6, .int f1976_7, .int f1976_8, .ref f1976_9, .int (nI f1976_10), .ref (κ w).2.2.2, .int f1976_12, .int f1976_13]))] _ := va_P.cons hat1976 va_P.nil
          refine va_get (D := D) (ci := 5) (v := .ref (κ w).2.2.2) (C := RX5) (T := TX5) (N := 14) hx hb hts iX5_readStatement_5 hown hN.1 hP 0 rfl rfl 11 (by decide) (hts _ mX5_readStatement_1) (fun _ h9 => h9) rfl dX5_readStatement_62 ?_
          obtain ⟨hb1977, e1977, hat1977, hk1977⟩ := hT.o7 hsu.1
          obtain ⟨f1977_0, f1977_1, f1977_2, f1977_3, f1977_4, f1977_5, f1977_6, f1977_7, rfl, c1977_0, c1977_3, c1977_mg, t1977_4, t1977_5, t1977_6, t1977_7⟩ := hk1977
          rw [hsu.2] at t1977_4
          rw [hsu.2] at t1977_5
          rw [hsu.2] at t1977_6
          rw [hsu.2] at t1977_7
          have hP : va_P D vwCl [((κ w).2.2.2, .inr (6, [.int (nI f1977_0), .int f1977_1, .int f1977_2, f1977_3, .ref f1977_4, .ref f1977_5, .ref f1977_6, .ref f1977_7])), (w, .inr (5, [.ref f1976_0, .int (nI ((κ w).2.2.1)), .int (nI f1976_2), .int (nI f1976_3), .int f1976_4, .int (nI f1976_5), .int f1976_6, .int f1976_7, .int f1976_8, .ref f1976_9, .int (nI f1976_10), .ref (κ w).2.2.2, .int f1976_12, .int f1976_13]))] _ := va_P.cons hat1977 hP
          refine va_getN (D := D) (ci := 6) (v := .int f1977_2) (C := RX6) (T := TX6) (N := 8) hx hb hts iX5_readStatement_6 hown hN.1 hP 0 rfl rfl 2 (by decide) (hN.f 42 rfl) (fun _ h9 => h9) rfl dX5_readStatement_65 ?_
          refine lv_if_ne (tgt := 76) hx hb dX5_readStatement_68 (by decide) (fun c1978 => ?_) (fun c1978 => ?_)
          · refine lv_aload_n hx hb dX5_readStatement_76 rfl (lv_at hl 0 rfl) ?_
            refine va_ldcS hx hb hown (hN.s 6 rfl) dX5_readStatement_77 ?_
            refine cv_i (As := [.ref (cs 106)]) (rest := []) (b := w) ⟨hx, hb, hml, hown, hts⟩ (c_X5_isWord hT (w := w) hw (i := 6) (by decide)) (cwV 1 hts gX5_readStatement_X5_isWord rfl rfl rfl hdX5_isWord_v ⟨Nat.le_of_ble_eq_true rfl, Nat.le_of_ble_eq_true rfl⟩) hN hE hL (rcv6 hN hT hw.1) rfl rfl hl.1 (Nat.le_of_ble_eq_true rfl) dX5_readStatement_79 (Nat.zero_le _) (Nat.zero_le _) (fun r1979 H1 locs hL hqr1979 => ?_)
            obtain ⟨h9, hqr1979⟩ := hqr1979; replace h9 := h9.symm; subst h9
            rcases hqr1979 with rfl | rfl
            · refine lv_if_eq (tgt := 133) hx hb dX5_readStatement_82 (by decide) (fun _ => ?_) (fun c9 => absurd (by decide) c9)
              refine lv_aload_n hx hb dX5_readStatement_133 rfl (lv_at hl 0 rfl) ?_
              refine lv_bipush (v := (-2)) hx hb dX5_readStatement_134 (by decide) ?_
              refine lv_aload_n hx hb dX5_readStatement_136 rfl (lv_at hl 0 rfl) ?_
              refine va_get (D := D) (ci := 5) (v := .int (nI f1976_5)) (C := RX5) (T := TX5) (N := 14) hx hb hts iX5_readStatement_5 hown hN.1 hP 1 rfl rfl 5 (by decide) (hts _ mX5_readStatement_7) (fun _ h9 => h9) rfl dX5_readStatement_137 ?_
              refine cv_i (As := [.int (-2), .int (nI f1976_5)]) (rest := []) (b := w) ⟨hx, hb, hml, hown, hts⟩ (c_X5_fail hT (w := w) hw (x := (-2)) (y := (nI f1976_5))) (cwV 2 hts gX5_readStatement_X5_fail rfl rfl rfl hdX5_fail_v ⟨Nat.le_of_ble_eq_true rfl, Nat.le_of_ble_eq_true rfl⟩) hN hE hL (rcv6 hN hT hw.1) rfl rfl hl.1 (Nat.le_of_ble_eq_true rfl) dX5_readStatement_140 (Nat.zero_le _) (Nat.zero_le _) (fun r1980 H1 locs hL hqr1980 => ?_)
              obtain ⟨hT1, hF1, hqr1980⟩ := hqr1980
              have hP : va_P D vwCl [((κ w).2.2.2, .inr (6, [.int (nI f1977_0), .int f1977_1, .int f1977_2, f1977_3, .ref f1977_4, .ref f1977_5, .ref f1977_6, .ref f1977_7]))] _ := hF1.hP (hP.sub [0] rfl) (fa_c ⟨by rw [hsu.1]; decide, by rw [hsu.2]; first | decide | (simp; done) | (simp; omega)⟩ fa_n)
              have hF := hF.tr (hF1.mono (by simp))
              have hT := hT1
              obtain rfl := hqr1980
              refine W.know (fun hg => ?_)
              rw [hH0] at hg
              exact en_i hx hb hr hlocks hL rfl (Nat.zero_le _) (Nat.zero_le _) dX5_readStatement_143 (⟨_, (fun _ _ _ => rfl), hT, hF, hsu, Or.inl ⟨rfl, hg⟩, Or.inl rfl⟩)
            · refine lv_if_eq (tgt := 133) hx hb dX5_readStatement_82 (by decide) (fun c9 => absurd c9 (by decide)) (fun _ => ?_)
              refine lv_aload_n hx hb dX5_readStatement_85 rfl (lv_at hl 0 rfl) ?_
              refine va_get (D := D) (ci := 5) (v := .ref (κ w).2.2.2) (C := RX5) (T := TX5) (N := 14) hx hb hts iX5_readStatement_5 hown hN.1 hP 1 rfl rfl 11 (by decide) (hts _ mX5_readStatement_1) (fun _ h9 => h9) rfl dX5_readStatement_86 ?_
              rcases c1977_3 with rfl | ⟨a1981, rfl, ta1981⟩
              · refine va_getN (D := D) (ci := 6) (v := .null) (C := RX6) (T := TX6) (N := 8) hx hb hts iX5_readStatement_6 hown hN.1 hP 0 rfl rfl 3 (by decide) (hN.f 44 rfl) (fun _ h9 => h9) rfl dX5_readStatement_89 ?_
                refine lv_ifnonnullN hx hb dX5_readStatement_92 ?_
                have hmg1 : (κ (κ w).2.2.2).2.2.1 ≠ 1 := (c1977_mg).resolve_right (by rintro ⟨_, h9⟩; cases h9)
                refine lv_aload_n hx hb dX5_readStatement_95 rfl (lv_at hl 0 rfl) ?_
                refine cv_v (As := []) (rest := []) (b := w) ⟨hx, hb, hml, hown, hts⟩ (c_X5_step hT (w := w) hw) (cwV 0 hts gX5_readStatement_X5_step rfl rfl rfl hdX5_step_v ⟨Nat.le_of_ble_eq_true rfl, Nat.le_of_ble_eq_true rfl⟩) hN hE hL (rcv6 hN hT hw.1) rfl rfl hl.1 (Nat.le_of_ble_eq_true rfl) dX5_readStatement_96 (Nat.zero_le _) (Nat.zero_le _) (fun H1 locs hL hqr1982 => ?_)
                obtain ⟨hT1, hF1, hqr1982⟩ := hqr1982
                have hP : va_P D vwCl [((κ w).2.2.2, .inr (6, [.int (nI f1977_0), .int f1977_1, .int f1977_2, .null, .ref f1977_4, .ref f1977_5, .ref f1977_6, .ref f1977_7]))] _ := hF1.hP (hP.sub [0] rfl) (fa_c ⟨by rw [hsu.1]; decide, by rw [hsu.2]; first | decide | (simp; done) | (simp; omega)⟩ fa_n)
                have hF := hF.tr (hF1.mono (by simp))
                have hT := hT1
                have f1983 := hqr1982
                refine lv_aload_n hx hb dX5_readStatement_99 rfl (lv_at hl 0 rfl) ?_
                refine lv_iconst (v := 0) hx hb dX5_readStatement_100 (by decide) ?_
                refine cv_i (As := [.int 0]) (rest := []) (b := w) ⟨hx, hb, hml, hown, hts⟩ (c_X5_readSum_d0 hT (w := w) hw) (cwV 1 hts gX5_readStatement_X5_readSum rfl rfl rfl hdX5_readSum_v ⟨Nat.le_of_ble_eq_true rfl, Nat.le_of_ble_eq_true rfl⟩) hN hE hL (rcv6 hN hT hw.1) rfl rfl hl.1 (Nat.le_of_ble_eq_true rfl) dX5_readStatement_101 (Nat.zero_le _) (Nat.zero_le _) (fun r1984 H1 locs hL hqr1984 => ?_)
                obtain ⟨hT1, hF1, hqr1984⟩ := hqr1984
                have hP : va_P D vwCl [((κ w).2.2.2, .inr (6, [.int (nI f1977_0), .int f1977_1, .int f1977_2, .null, .ref f1977_4, .ref f1977_5, .ref f1977_6, .ref f1977_7]))] _ := hF1.hP (hP.sub [0] rfl) (fa_c ⟨by rw [hsu.1]; decide, by rw [hsu.2]; first | decide | (simp; done) | (simp; omega)⟩ fa_n)
                have hF := hF.tr (hF1.mono (by simp))
                have hT := hT1
                rcases hqr1984 with rfl | rfl
                · refine lv_if_ne (tgt := 109) hx hb dX5_readStatement_104 (by decide) (fun c9 => absurd (by decide) c9) (fun _ => ?_)
                  refine lv_iconst (v := 0) hx hb dX5_readStatement_107 (by decide) ?_
                  refine W.know (fun hg => ?_)
                  rw [hH0] at hg
                  exact en_i hx hb hr hlocks hL rfl (Nat.zero_le _) (Nat.zero_le _) dX5_readStatement_108 (⟨_, (fun _ _ _ => rfl), hT, hF, hsu, Or.inl ⟨rfl, hg⟩, Or.inl rfl⟩)
                · refine lv_if_ne (tgt := 109) hx hb dX5_readStatement_104 (by decide) (fun _ => ?_) (fun c9 => absurd c9 (by decide))
                  refine lv_aload_n hx hb dX5_readStatement_109 rfl (lv_at hl 0 rfl) ?_
                  obtain ⟨hb1985, e1985, hat1985, hk1985⟩ := hT.o6 hw.1
                  obtain ⟨f1985_0, f1985_2, f1985_3, f1985_4, f1985_5, f1985_6, f1985_7, f1985_8, f1985_9, f1985_10, f1985_11, f1985_12, f1985_13, rfl, c1985_1, c1985_2, c1985_3, c1985_5, c1985_10, t1985_0, t1985_9, c1985_11, c1985_p2⟩ := hk1985
                  obtain rfl : f1985_11 = .ref (κ w).2.2.2 := c1985_p2.resolve_left hs0
                  have hP : va_P D vwCl [(w, .inr (5, [.ref f1985_0, .int (nI ((κ w).2.2.1)), .int (nI f1985_2), .int (nI f1985_3), .int f1985_4, .int (nI f1985_5), .int f1985_6, .int f1985_7, .int f1985_8, .ref f1985_9, .int (nI f1985_10), .ref (κ w).2.2.2, .int f1985_12, .int f1985_13])), ((κ w).2.2.2, .inr (6, [.int (nI f1977_0), .int f1977_1, .int f1977_2, .null, .ref f1977_4, .ref f1977_5, .ref f1977_6, .ref f1977_7]))] _ := va_P.cons hat1985 hP
                  refine va_get (D := D) (ci := 5) (v := .ref (κ w).2.2.2) (C := RX5) (T := TX5) (N := 14) hx hb hts iX5_readStatement_5 hown hN.1 hP 0 rfl rfl 11 (by decide) (hts _ mX5_readStatement_1) (fun _ h9 => h9) rfl dX5_readStatement_110 ?_
                  have hb0 : B0 ≤ _ := hT.b0 hw (by decide)
                  have hB : Bx B0 D _ [(w, .inr (5, [.ref f1985_0, .int (nI ((κ w).2.2.1)), .int (nI f1985_2), .int (nI f1985_3), .int f1985_4, .int (nI f1985_5), .int f1985_6, .int f1985_7, .int f1985_8, .ref f1985_9, .int (nI f1985_10), .ref (κ w).2.2.2, .int f1985_12, .int f1985_13])), ((κ w).2.2.2, .inr (6, [.int (nI f1977_0), .int f1977_1, .int f1977_2, .null, .ref f1977_4, .ref f1977_5, .ref f1977_6, .ref f1977_7]))] [] _ _ := Bx.of (fun a => (κ a).1) hL hP (fa_c hb1985 (fa_c hb1977 fa_n)) (by simp only [List.map_cons, List.map_nil, hw.1, hsu.1]; decide)
                  refine nw_o (ci := 0) (fs := [.null, .null]) (C := RX0) (T := TX0) (N := 2) hx hb hts iX5_readStatement_0 tyX0 tyX0_ok hown (hts _ mX5_readStatement_2) (hts _ mX5_readStatement_3) (hts _ mX5_readStatement_4) hN rfl dfl0 (show 0 + 1 ≤ 3 by omega) (show 0 + 2 ≤ 618 by omega) dX5_readStatement_113 (fun q1986 H heq1986 hzq1986 hoq1986 hatq1986 => ?_)
                  have hgeq1986 : _ ≤ q1986 := Nat.le_trans hB.2.2.1 (Nat.le_of_eq heq1986.symm)
                  have hbq1986 : B0 ≤ q1986 := Nat.le_trans hb0 hgeq1986
                  have hfq1986 : (κ q1986).1 = 0 := hT.fresh hgeq1986
                  have hB := hB.nw heq1986 hzq1986 hoq1986 hatq1986 hb0
                  have hB : Bx B0 D _ [(w, .inr (5, [.ref f1985_0, .int (nI ((κ w).2.2.1)), .int (nI f1985_2), .int (nI f1985_3), .int f1985_4, .int (nI f1985_5), .int f1985_6, .int f1985_7, .int f1985_8, .ref f1985_9, .int (nI f1985_10), .ref (κ w).2.2.2, .int f1985_12, .int f1985_13])), ((κ w).2.2.2, .inr (6, [.int (nI f1977_0), .int f1977_1, .int f1977_2, .null, .ref f1977_4, .ref f1977_5, .ref f1977_6, .ref f1977_7])), (q1986, .inr (0, [.null, .null]))] [] _ _ := hB
                  refine lv_dup hx hb dX5_readStatement_116 rfl ?_
                  refine lv_aload_n hx hb dX5_readStatement_117 rfl (lv_at hl 0 rfl) ?_
                  refine va_get (D := D) (ci := 5) (v := .ref f1985_9) (C := RX5) (T := TX5) (N := 14) hx hb hts iX5_readStatement_5 hown hN.1 hB.1 0 rfl rfl 9 (by decide) (hts _ mX5_readStatement_5) (fun _ h9 => h9) rfl dX5_readStatement_118 ?_
                  refine lv_aload_n hx hb dX5_readStatement_121 rfl (lv_at hl 0 rfl) ?_
                  refine va_get (D := D) (ci := 5) (v := .int (nI f1985_10)) (C := RX5) (T := TX5) (N := 14) hx hb hts iX5_readStatement_5 hown hN.1 hB.1 0 rfl rfl 10 (by decide) (hts _ mX5_readStatement_6) (fun _ h9 => h9) rfl dX5_readStatement_122 ?_
                  have hT : WT B0 D cs T κ _ := hT.close hB trivial
                  have hF : Fr B0 [10, 11] κ H0 _ := hF.close hB fa_n
                  have hL : OkL B0 _ := hB.2.2.2.2.2
                  have hP : va_P D vwCl [(w, .inr (5, [.ref f1985_0, .int (nI ((κ w).2.2.1)), .int (nI f1985_2), .int (nI f1985_3), .int f1985_4, .int (nI f1985_5), .int f1985_6, .int f1985_7, .int f1985_8, .ref f1985_9, .int (nI f1985_10), .ref (κ w).2.2.2, .int f1985_12, .int f1985_13])), ((κ w).2.2.2, .inr (6, [.int (nI f1977_0), .int f1977_1, .int f1977_2, .null, .ref f1977_4, .ref f1977_5, .ref f1977_6, .ref f1977_7])), (q1986, .inr (0, [.null, .null]))] _ := hB.1
                  refine ci_v (As := [.ref f1985_9, .int (nI f1985_10)]) (rest := [.ref q1986, .ref (κ w).2.2.2]) (b := q1986) ⟨hx, hb, hml, hown, hts⟩ (c_X0_init hT (w := q1986) hfq1986 hbq1986 (hP 2 _ rfl) (v := f1985_9) t1985_9 (n := f1985_10) (by first | omega | decide | assumption)) (cwI 2 hts gX5_readStatement_X0_init rfl rfl rfl (hts _ mX5_readStatement_4) (hts _ mX5_readStatement_156) (hts _ mX5_readStatement_157) rfl hdX0_init_o ⟨Nat.le_of_ble_eq_true rfl, Nat.le_of_ble_eq_true rfl⟩) hN hE hL rfl rfl hl.1 (Nat.le_of_ble_eq_true rfl) dX5_readStatement_125 (show 1 + 2 ≤ 3 by omega) (show (0 + 2) + 616 ≤ 618 by omega) (fun H1 locs hL hqr1987 => ?_)
                  obtain ⟨κr1987, hxr1987, hT1, hF1, hqr1987⟩ := hqr1987
                  have hF := hF.tr (hF1.mono (by simp))
                  have hT := hT1
                  have hKF : KF κ κr1987 := hxr1987.f
                  have hKX : KX κ κr1987 := hxr1987
                  have hw := (hxr1987.f.t2 hw (by decide))
                  have hsu := (hxr1987.f.t2 hsu (by decide))
                  have hq1986 := hqr1987
                  obtain ⟨hb1988, e1988, hat1988, hk1988⟩ := hT.o7 hsu.1
                  obtain ⟨f1988_0, f1988_1, f1988_2, f1988_3, f1988_4, f1988_5, f1988_6, f1988_7, rfl, c1988_0, c1988_3, c1988_mg, t1988_4, t1988_5, t1988_6, t1988_7⟩ := hk1988
                  rw [hsu.2] at t1988_4
                  rw [hsu.2] at t1988_5
                  rw [hsu.2] at t1988_6
                  rw [hsu.2] at t1988_7
                  have hP : va_P D vwCl [((κ w).2.2.2, .inr (6, [.int (nI f1988_0), .int f1988_1, .int f1988_2, f1988_3, .ref f1988_4, .ref f1988_5, .ref f1988_6, .ref f1988_7]))] _ := va_P.cons hat1988 va_P.nil
                  have hB : Bx B0 D _ [((κ w).2.2.2, .inr (6, [.int (nI f1988_0), .int f1988_1, .int f1988_2, f1988_3, .ref f1988_4, .ref f1988_5, .ref f1988_6, .ref f1988_7]))] [] _ _ := Bx.of (fun a => (κr1987 a).1) hL hP (fa_c hb1988 fa_n) (by simp only [List.map_cons, List.map_nil, hsu.1]; decide)
                  refine b_putN (D := D) (ci := 6) (v := .ref q1986) (ty := .object "OneBeat$Formula") (C := RX6) (T := TX6) (N := 8) hx hb hts iX5_readStatement_6 tyX6 tyX6_ok nmX6 hown hN hB 0 rfl rfl 3 (by decide) (hN.f 44 rfl) (fun _ h9 => h9) rfl (by decide +kernel) rfl rfl (Nat.le_of_ble_eq_true rfl) (.inl rfl) dX5_readStatement_128 (fun H locs hB => ?_)
                  have hB : Bx B0 D _ [((κ w).2.2.2, .inr (6, [.int (nI f1988_0), .int f1988_1, .int f1988_2, .ref q1986, .ref f1988_4, .ref f1988_5, .ref f1988_6, .ref f1988_7]))] [(κ w).2.2.2] _ _ := hB
                  refine lv_iconst (v := 1) hx hb dX5_readStatement_131 (by decide) ?_
                  have hF : Fr B0 [10, 11] κ H0 _ := hF.closeN hB (fa_c (fun h9 => by rw [← (hKF _ h9).2, hsu.2]; simp) fa_n)
                  have hT : WT B0 D cs T (kp κr1987 (κ w).2.2.2 1 0) _ := hT.closeK (κ w).2.2.2 1 0 hB (by rw [hsu.1]; decide) (by rw [hsu.1]; decide) (List.mem_of_getElem? (i := 0) rfl) ⟨⟨0, _, rfl, kp_ok (ok_7 (k := ((κr1987 (κ w).2.2.2).1, (κr1987 (κ w).2.2.2).2.1, _, _)) hsu.1 ⟨_, _, _, _, _, _, _, _, rfl, (by omega), (Or.inr ⟨_, rfl, (t2kp hq1986)⟩), (Or.inr ⟨_, rfl⟩), ⟨(t2kp t1988_4).1, by rw [hsu.2]; exact (t2kp t1988_4).2⟩, ⟨(t2kp t1988_5).1, by rw [hsu.2]; exact (t2kp t1988_5).2⟩, ⟨(t2kp t1988_6).1, by rw [hsu.2]; exact (t2kp t1988_6).2⟩, ⟨(t2kp t1988_7).1, by rw [hsu.2]; exact (t2kp t1988_7).2⟩⟩)⟩, trivial⟩
                  have hL : OkL B0 _ := hB.2.2.2.2.2
                  have hsu := t2kp (x := 1) (y := 0) (a := (κ w).2.2.2) hsu
                  refine W.know (fun hg => ?_)
                  rw [hH0] at hg
                  exact en_i hx hb hr hlocks hL rfl (show 3 ≤ 3 by omega) (show ((0 + 2) + 616) ≤ 618 by omega) dX5_readStatement_132 (⟨_, (fun a h1 h2 => (kp_n h2).trans (hKX a h1)), hT, hF, hsu, Or.inr ⟨hmg1, by rw [kp_a], hg.mono (by omega) (by omega)⟩, Or.inr rfl⟩)
              · refine va_getN (D := D) (ci := 6) (v := .ref a1981) (C := RX6) (T := TX6) (N := 8) hx hb hts iX5_readStatement_6 hown hN.1 hP 0 rfl rfl 3 (by decide) (hN.f 44 rfl) (fun _ h9 => h9) rfl dX5_readStatement_89 ?_
                refine lv_ifnonnull (tgt := 133) hx hb dX5_readStatement_92 (by decide) ?_
                refine lv_aload_n hx hb dX5_readStatement_133 rfl (lv_at hl 0 rfl) ?_
                refine lv_bipush (v := (-2)) hx hb dX5_readStatement_134 (by decide) ?_
                refine lv_aload_n hx hb dX5_readStatement_136 rfl (lv_at hl 0 rfl) ?_
                refine va_get (D := D) (ci := 5) (v := .int (nI f1976_5)) (C := RX5) (T := TX5) (N := 14) hx hb hts iX5_readStatement_5 hown hN.1 hP 1 rfl rfl 5 (by decide) (hts _ mX5_readStatement_7) (fun _ h9 => h9) rfl dX5_readStatement_137 ?_
                refine cv_i (As := [.int (-2), .int (nI f1976_5)]) (rest := []) (b := w) ⟨hx, hb, hml, hown, hts⟩ (c_X5_fail hT (w := w) hw (x := (-2)) (y := (nI f1976_5))) (cwV 2 hts gX5_readStatement_X5_fail rfl rfl rfl hdX5_fail_v ⟨Nat.le_of_ble_eq_true rfl, Nat.le_of_ble_eq_true rfl⟩) hN hE hL (rcv6 hN hT hw.1) rfl rfl hl.1 (Nat.le_of_ble_eq_true rfl) dX5_readStatement_140 (Nat.zero_le _) (Nat.zero_le _) (fun r1989 H1 locs hL hqr1989 => ?_)
                obtain ⟨hT1, hF1, hqr1989⟩ := hqr1989
                have hP : va_P D vwCl [((κ w).2.2.2, .inr (6, [.int (nI f1977_0), .int f1977_1, .int f1977_2, .ref a1981, .ref f1977_4, .ref f1977_5, .ref f1977_6, .ref f1977_7]))] _ := hF1.hP (hP.sub [0] rfl) (fa_c ⟨by rw [hsu.1]; decide, by rw [hsu.2]; first | decide | (simp; done) | (simp; omega)⟩ fa_n)
                have hF := hF.tr (hF1.mono (by simp))
                have hT := hT1
                obtain rfl := hqr1989
                refine W.know (fun hg => ?_)
                rw [hH0] at hg
                exact en_i hx hb hr hlocks hL rfl (Nat.zero_le _) (Nat.zero_le _) dX5_readStatement_143 (⟨_, (fun _ _ _ => rfl), hT, hF, hsu, Or.inl ⟨rfl, hg⟩, Or.inl rfl⟩)
          · refine lv_aload_n hx hb dX5_readStatement_71 rfl (lv_at hl 0 rfl) ?_
            refine cv_i (As := []) (rest := []) (b := w) ⟨hx, hb, hml, hown, hts⟩ (c_X5_readPatience hT (w := w) hw (by first | omega | decide | assumption) (by first | omega | decide | assumption)) (cwV 0 hts gX5_readStatement_X5_readPatience rfl rfl rfl hdX5_readPatience_v ⟨Nat.le_of_ble_eq_true rfl, Nat.le_of_ble_eq_true rfl⟩) hN hE hL (rcv6 hN hT hw.1) rfl rfl hl.1 (Nat.le_of_ble_eq_true rfl) dX5_readStatement_72 (Nat.zero_le _) (Nat.zero_le _) (fun r1990 H1 locs hL hqr1990 => ?_)
            obtain ⟨hT1, hF1, hqr1990⟩ := hqr1990
            have hF := hF.tr (hF1.mono (by simp))
            have hT := hT1
            rcases hqr1990 with rfl | rfl
            · refine W.know (fun hg => ?_)
              rw [hH0] at hg
              exact en_i hx hb hr hlocks hL rfl (Nat.zero_le _) (Nat.zero_le _) dX5_readStatement_75 (⟨_, (fun _ _ _ => rfl), hT, hF, hsu, Or.inl ⟨rfl, hg⟩, Or.inl rfl⟩)
            · refine W.know (fun hg => ?_)
              rw [hH0] at hg
              exact en_i hx hb hr hlocks hL rfl (Nat.zero_le _) (Nat.zero_le _) dX5_readStatement_75 (⟨_, (fun _ _ _ => rfl), hT, hF, hsu, Or.inl ⟨rfl, hg⟩, Or.inr rfl⟩)
      · refine lv_if_eq (tgt := 52) hx hb dX5_readStatement_34 (by decide) (fun c9 => absurd c9 (by decide)) (fun _ => ?_)
        refine lv_aload_n hx hb dX5_readStatement_37 rfl (lv_at hl 0 rfl) ?_
        obtain ⟨hb1991, e1991, hat1991, hk1991⟩ := hT.o6 hw.1
        obtain ⟨f1991_0, f1991_2, f1991_3, f1991_4, f1991_5, f1991_6, f1991_7, f1991_8, f1991_9, f1991_10, f1991_11, f1991_12, f1991_13, rfl, c1991_1, c1991_2, c1991_3, c1991_5, c1991_10, t1991_0, t1991_9, c1991_11, c1991_p2⟩ := hk1991
        obtain rfl : f1991_11 = .ref (κ w).2.2.2 := c1991_p2.resolve_left hs0
        have hP : va_P D vwCl [(w, .inr (5, [.ref f1991_0, .int (nI ((κ w).2.2.1)), .int (nI f1991_2), .int (nI f1991_3), .int f1991_4, .int (nI f1991_5), .int f1991_6, .int f1991_7, .int f1991_8, .ref f1991_9, .int (nI f1991_10), .ref (κ w).2.2.2, .int f1991_12, .int f1991_13]))] _ := va_P.cons hat1991 va_P.nil
        refine va_get (D := D) (ci := 5) (v := .ref (κ w).2.2.2) (C := RX5) (T := TX5) (N := 14) hx hb hts iX5_readStatement_5 hown hN.1 hP 0 rfl rfl 11 (by decide) (hts _ mX5_readStatement_1) (fun _ h9 => h9) rfl dX5_readStatement_38 ?_
        obtain ⟨hb1992, e1992, hat1992, hk1992⟩ := hT.o7 hsu.1
        obtain ⟨f1992_0, f1992_1, f1992_2, f1992_3, f1992_4, f1992_5, f1992_6, f1992_7, rfl, c1992_0, c1992_3, c1992_mg, t1992_4, t1992_5, t1992_6, t1992_7⟩ := hk1992
        rw [hsu.2] at t1992_4
        rw [hsu.2] at t1992_5
        rw [hsu.2] at t1992_6
        rw [hsu.2] at t1992_7
        have hP : va_P D vwCl [((κ w).2.2.2, .inr (6, [.int (nI f1992_0), .int f1992_1, .int f1992_2, f1992_3, .ref f1992_4, .ref f1992_5, .ref f1992_6, .ref f1992_7])), (w, .inr (5, [.ref f1991_0, .int (nI ((κ w).2.2.1)), .int (nI f1991_2), .int (nI f1991_3), .int f1991_4, .int (nI f1991_5), .int f1991_6, .int f1991_7, .int f1991_8, .ref f1991_9, .int (nI f1991_10), .ref (κ w).2.2.2, .int f1991_12, .int f1991_13]))] _ := va_P.cons hat1992 hP
        refine va_getN (D := D) (ci := 6) (v := .int f1992_1) (C := RX6) (T := TX6) (N := 8) hx hb hts iX5_readStatement_6 hown hN.1 hP 0 rfl rfl 1 (by decide) (hN.f 40 rfl) (fun _ h9 => h9) rfl dX5_readStatement_41 ?_
        refine lv_if_ne (tgt := 52) hx hb dX5_readStatement_44 (by decide) (fun c1993 => ?_) (fun c1993 => ?_)
        · refine lv_aload_n hx hb dX5_readStatement_52 rfl (lv_at hl 0 rfl) ?_
          refine va_ldcS hx hb hown (hN.s 5 rfl) dX5_readStatement_53 ?_
          refine cv_i (As := [.ref (cs 105)]) (rest := []) (b := w) ⟨hx, hb, hml, hown, hts⟩ (c_X5_isWord hT (w := w) hw (i := 5) (by decide)) (cwV 1 hts gX5_readStatement_X5_isWord rfl rfl rfl hdX5_isWord_v ⟨Nat.le_of_ble_eq_true rfl, Nat.le_of_ble_eq_true rfl⟩) hN hE hL (rcv6 hN hT hw.1) rfl rfl hl.1 (Nat.le_of_ble_eq_true rfl) dX5_readStatement_55 (Nat.zero_le _) (Nat.zero_le _) (fun r1994 H1 locs hL hqr1994 => ?_)
          obtain ⟨h9, hqr1994⟩ := hqr1994; replace h9 := h9.symm; subst h9
          rcases hqr1994 with rfl | rfl
          · refine lv_if_eq (tgt := 76) hx hb dX5_readStatement_58 (by decide) (fun _ => ?_) (fun c9 => absurd (by decide) c9)
            refine lv_aload_n hx hb dX5_readStatement_76 rfl (lv_at hl 0 rfl) ?_
            refine va_ldcS hx hb hown (hN.s 6 rfl) dX5_readStatement_77 ?_
            refine cv_i (As := [.ref (cs 106)]) (rest := []) (b := w) ⟨hx, hb, hml, hown, hts⟩ (c_X5_isWord hT (w := w) hw (i := 6) (by decide)) (cwV 1 hts gX5_readStatement_X5_isWord rfl rfl rfl hdX5_isWord_v ⟨Nat.le_of_ble_eq_true rfl, Nat.le_of_ble_eq_true rfl⟩) hN hE hL (rcv6 hN hT hw.1) rfl rfl hl.1 (Nat.le_of_ble_eq_true rfl) dX5_readStatement_79 (Nat.zero_le _) (Nat.zero_le _) (fun r1995 H1 locs hL hqr1995 => ?_)
            obtain ⟨h9, hqr1995⟩ := hqr1995; replace h9 := h9.symm; subst h9
            rcases hqr1995 with rfl | rfl
            · refine lv_if_eq (tgt := 133) hx hb dX5_readStatement_82 (by decide) (fun _ => ?_) (fun c9 => absurd (by decide) c9)
              refine lv_aload_n hx hb dX5_readStatement_133 rfl (lv_at hl 0 rfl) ?_
              refine lv_bipush (v := (-2)) hx hb dX5_readStatement_134 (by decide) ?_
              refine lv_aload_n hx hb dX5_readStatement_136 rfl (lv_at hl 0 rfl) ?_
              refine va_get (D := D) (ci := 5) (v := .int (nI f1991_5)) (C := RX5) (T := TX5) (N := 14) hx hb hts iX5_readStatement_5 hown hN.1 hP 1 rfl rfl 5 (by decide) (hts _ mX5_readStatement_7) (fun _ h9 => h9) rfl dX5_readStatement_137 ?_
              refine cv_i (As := [.int (-2), .int (nI f1991_5)]) (rest := []) (b := w) ⟨hx, hb, hml, hown, hts⟩ (c_X5_fail hT (w := w) hw (x := (-2)) (y := (nI f1991_5))) (cwV 2 hts gX5_readStatement_X5_fail rfl rfl rfl hdX5_fail_v ⟨Nat.le_of_ble_eq_true rfl, Nat.le_of_ble_eq_true rfl⟩) hN hE hL (rcv6 hN hT hw.1) rfl rfl hl.1 (Nat.le_of_ble_eq_true rfl) dX5_readStatement_140 (Nat.zero_le _) (Nat.zero_le _) (fun r1996 H1 locs hL hqr1996 => ?_)
              obtain ⟨hT1, hF1, hqr1996⟩ := hqr1996
              have hP : va_P D vwCl [((κ w).2.2.2, .inr (6, [.int (nI f1992_0), .int f1992_1, .int f1992_2, f1992_3, .ref f1992_4, .ref f1992_5, .ref f1992_6, .ref f1992_7]))] _ := hF1.hP (hP.sub [0] rfl) (fa_c ⟨by rw [hsu.1]; decide, by rw [hsu.2]; first | decide | (simp; done) | (simp; omega)⟩ fa_n)
              have hF := hF.tr (hF1.mono (by simp))
              have hT := hT1
              obtain rfl := hqr1996
              refine W.know (fun hg => ?_)
              rw [hH0] at hg
              exact en_i hx hb hr hlocks hL rfl (Nat.zero_le _) (Nat.zero_le _) dX5_readStatement_143 (⟨_, (fun _ _ _ => rfl), hT, hF, hsu, Or.inl ⟨rfl, hg⟩, Or.inl rfl⟩)
            · refine lv_if_eq (tgt := 133) hx hb dX5_readStatement_82 (by decide) (fun c9 => absurd c9 (by decide)) (fun _ => ?_)
              refine lv_aload_n hx hb dX5_readStatement_85 rfl (lv_at hl 0 rfl) ?_
              refine va_get (D := D) (ci := 5) (v := .ref (κ w).2.2.2) (C := RX5) (T := TX5) (N := 14) hx hb hts iX5_readStatement_5 hown hN.1 hP 1 rfl rfl 11 (by decide) (hts _ mX5_readStatement_1) (fun _ h9 => h9) rfl dX5_readStatement_86 ?_
              rcases c1992_3 with rfl | ⟨a1997, rfl, ta1997⟩
              · refine va_getN (D := D) (ci := 6) (v := .null) (C := RX6) (T := TX6) (N := 8) hx hb hts iX5_readStatement_6 hown hN.1 hP 0 rfl rfl 3 (by decide) (hN.f 44 rfl) (fun _ h9 => h9) rfl dX5_readStatement_89 ?_
                refine lv_ifnonnullN hx hb dX5_readStatement_92 ?_
                have hmg1 : (κ (κ w).2.2.2).2.2.1 ≠ 1 := (c1992_mg).resolve_right (by rintro ⟨_, h9⟩; cases h9)
                refine lv_aload_n hx hb dX5_readStatement_95 rfl (lv_at hl 0 rfl) ?_
                refine cv_v (As := []) (rest := []) (b := w) ⟨hx, hb, hml, hown, hts⟩ (c_X5_step hT (w := w) hw) (cwV 0 hts gX5_readStatement_X5_step rfl rfl rfl hdX5_step_v ⟨Nat.le_of_ble_eq_true rfl, Nat.le_of_ble_eq_true rfl⟩) hN hE hL (rcv6 hN hT hw.1) rfl rfl hl.1 (Nat.le_of_ble_eq_true rfl) dX5_readStatement_96 (Nat.zero_le _) (Nat.zero_le _) (fun H1 locs hL hqr1998 => ?_)
                obtain ⟨hT1, hF1, hqr1998⟩ := hqr1998
                have hP : va_P D vwCl [((κ w).2.2.2, .inr (6, [.int (nI f1992_0), .int f1992_1, .int f1992_2, .null, .ref f1992_4, .ref f1992_5, .ref f1992_6, .ref f1992_7]))] _ := hF1.hP (hP.sub [0] rfl) (fa_c ⟨by rw [hsu.1]; decide, by rw [hsu.2]; first | decide | (simp; done) | (simp; omega)⟩ fa_n)
                have hF := hF.tr (hF1.mono (by simp))
                have hT := hT1
                have f1999 := hqr1998
                refine lv_aload_n hx hb dX5_readStatement_99 rfl (lv_at hl 0 rfl) ?_
                refine lv_iconst (v := 0) hx hb dX5_readStatement_100 (by decide) ?_
                refine cv_i (As := [.int 0]) (rest := []) (b := w) ⟨hx, hb, hml, hown, hts⟩ (c_X5_readSum_d0 hT (w := w) hw) (cwV 1 hts gX5_readStatement_X5_readSum rfl rfl rfl hdX5_readSum_v ⟨Nat.le_of_ble_eq_true rfl, Nat.le_of_ble_eq_true rfl⟩) hN hE hL (rcv6 hN hT hw.1) rfl rfl hl.1 (Nat.le_of_ble_eq_true rfl) dX5_readStatement_101 (Nat.zero_le _) (Nat.zero_le _) (fun r2000 H1 locs hL hqr2000 => ?_)
                obtain ⟨hT1, hF1, hqr2000⟩ := hqr2000
                have hP : va_P D vwCl [((κ w).2.2.2, .inr (6, [.int (nI f1992_0), .int f1992_1, .int f1992_2, .null, .ref f1992_4, .ref f1992_5, .ref f1992_6, .ref f1992_7]))] _ := hF1.hP (hP.sub [0] rfl) (fa_c ⟨by rw [hsu.1]; decide, by rw [hsu.2]; first | decide | (simp; done) | (simp; omega)⟩ fa_n)
                have hF := hF.tr (hF1.mono (by simp))
                have hT := hT1
                rcases hqr2000 with rfl | rfl
                · refine lv_if_ne (tgt := 109) hx hb dX5_readStatement_104 (by decide) (fun c9 => absurd (by decide) c9) (fun _ => ?_)
                  refine lv_iconst (v := 0) hx hb dX5_readStatement_107 (by decide) ?_
                  refine W.know (fun hg => ?_)
                  rw [hH0] at hg
                  exact en_i hx hb hr hlocks hL rfl (Nat.zero_le _) (Nat.zero_le _) dX5_readStatement_108 (⟨_, (fun _ _ _ => rfl), hT, hF, hsu, Or.inl ⟨rfl, hg⟩, Or.inl rfl⟩)
                · refine lv_if_ne (tgt := 109) hx hb dX5_readStatement_104 (by decide) (fun _ => ?_) (fun c9 => absurd c9 (by decide))
                  refine lv_aload_n hx hb dX5_readStatement_109 rfl (lv_at hl 0 rfl) ?_
                  obtain ⟨hb2001, e2001, hat2001, hk2001⟩ := hT.o6 hw.1
                  obtain ⟨f2001_0, f2001_2, f2001_3, f2001_4, f2001_5, f2001_6, f2001_7, f2001_8, f2001_9, f2001_10, f2001_11, f2001_12, f2001_13, rfl, c2001_1, c2001_2, c2001_3, c2001_5, c2001_10, t2001_0, t2001_9, c2001_11, c2001_p2⟩ := hk2001
                  obtain rfl : f2001_11 = .ref (κ w).2.2.2 := c2001_p2.resolve_left hs0
                  have hP : va_P D vwCl [(w, .inr (5, [.ref f2001_0, .int (nI ((κ w).2.2.1)), .int (nI f2001_2), .int (nI f2001_3), .int f2001_4, .int (nI f2001_5), .int f2001_6, .int f2001_7, .int f2001_8, .ref f2001_9, .int (nI f2001_10), .ref (κ w).2.2.2, .int f2001_12, .int f2001_13])), ((κ w).2.2.2, .inr (6, [.int (nI f1992_0), .int f1992_1, .int f1992_2, .null, .ref f1992_4, .ref f1992_5, .ref f1992_6, .ref f1992_7]))] _ := va_P.cons hat2001 hP
                  refine va_get (D := D) (ci := 5) (v := .ref (κ w).2.2.2) (C := RX5) (T := TX5) (N := 14) hx hb hts iX5_readStatement_5 hown hN.1 hP 0 rfl rfl 11 (by decide) (hts _ mX5_readStatement_1) (fun _ h9 => h9) rfl dX5_readStatement_110 ?_
                  have hb0 : B0 ≤ _ := hT.b0 hw (by decide)
                  have hB : Bx B0 D _ [(w, .inr (5, [.ref f2001_0, .int (nI ((κ w).2.2.1)), .int (nI f2001_2), .int (nI f2001_3), .int f2001_4, .int (nI f2001_5), .int f2001_6, .int f2001_7, .int f2001_8, .ref f2001_9, .int (nI f2001_10), .ref (κ w).2.2.2, .int f2001_12, .int f2001_13])), ((κ w).2.2.2, .inr (6, [.int (nI f1992_0), .int f1992_1, .int f1992_2, .null, .ref f1992_4, .ref f1992_5, .ref f1992_6, .ref f1992_7]))] [] _ _ := Bx.of (fun a => (κ a).1) hL hP (fa_c hb2001 (fa_c hb1992 fa_n)) (by simp only [List.map_cons, List.map_nil, hw.1, hsu.1]; decide)
                  refine nw_o (ci := 0) (fs := [.null, .null]) (C := RX0) (T := TX0) (N := 2) hx hb hts iX5_readStatement_0 tyX0 tyX0_ok hown (hts _ mX5_readStatement_2) (hts _ mX5_readStatement_3) (hts _ mX5_readStatement_4) hN rfl dfl0 (show 0 + 1 ≤ 3 by omega) (show 0 + 2 ≤ 618 by omega) dX5_readStatement_113 (fun q2002 H heq2002 hzq2002 hoq2002 hatq2002 => ?_)
                  have hgeq2002 : _ ≤ q2002 := Nat.le_trans hB.2.2.1 (Nat.le_of_eq heq2002.symm)
                  have hbq2002 : B0 ≤ q2002 := Nat.le_trans hb0 hgeq2002
                  have hfq2002 : (κ q2002).1 = 0 := hT.fresh hgeq2002
                  have hB := hB.nw heq2002 hzq2002 hoq2002 hatq2002 hb0
                  have hB : Bx B0 D _ [(w, .inr (5, [.ref f2001_0, .int (nI ((κ w).2.2.1)), .int (nI f2001_2), .int (nI f2001_3), .int f2001_4, .int (nI f2001_5), .int f2001_6, .int f2001_7, .int f2001_8, .ref f2001_9, .int (nI f2001_10), .ref (κ w).2.2.2, .int f2001_12, .int f2001_13])), ((κ w).2.2.2, .inr (6, [.int (nI f1992_0), .int f1992_1, .int f1992_2, .null, .ref f1992_4, .ref f1992_5, .ref f1992_6, .ref f1992_7])), (q2002, .inr (0, [.null, .null]))] [] _ _ := hB
                  refine lv_dup hx hb dX5_readStatement_116 rfl ?_
                  refine lv_aload_n hx hb dX5_readStatement_117 rfl (lv_at hl 0 rfl) ?_
                  refine va_get (D := D) (ci := 5) (v := .ref f2001_9) (C := RX5) (T := TX5) (N := 14) hx hb hts iX5_readStatement_5 hown hN.1 hB.1 0 rfl rfl 9 (by decide) (hts _ mX5_readStatement_5) (fun _ h9 => h9) rfl dX5_readStatement_118 ?_
                  refine lv_aload_n hx hb dX5_readStatement_121 rfl (lv_at hl 0 rfl) ?_
                  refine va_get (D := D) (ci := 5) (v := .int (nI f2001_10)) (C := RX5) (T := TX5) (N := 14) hx hb hts iX5_readStatement_5 hown hN.1 hB.1 0 rfl rfl 10 (by decide) (hts _ mX5_readStatement_6) (fun _ h9 => h9) rfl dX5_readStatement_122 ?_
                  have hT : WT B0 D cs T κ _ := hT.close hB trivial
                  have hF : Fr B0 [10, 11] κ H0 _ := hF.close hB fa_n
                  have hL : OkL B0 _ := hB.2.2.2.2.2
                  have hP : va_P D vwCl [(w, .inr (5, [.ref f2001_0, .int (nI ((κ w).2.2.1)), .int (nI f2001_2), .int (nI f2001_3), .int f2001_4, .int (nI f2001_5), .int f2001_6, .int f2001_7, .int f2001_8, .ref f2001_9, .int (nI f2001_10), .ref (κ w).2.2.2, .int f2001_12, .int f2001_13])), ((κ w).2.2.2, .inr (6, [.int (nI f1992_0), .int f1992_1, .int f1992_2, .null, .ref f1992_4, .ref f1992_5, .ref f1992_6, .ref f1992_7])), (q2002, .inr (0, [.null, .null]))] _ := hB.1
                  refine ci_v (As := [.ref f2001_9, .int (nI f2001_10)]) (rest := [.ref q2002, .ref (κ w).2.2.2]) (b := q2002) ⟨hx, hb, hml, hown, hts⟩ (c_X0_init hT (w := q2002) hfq2002 hbq2002 (hP 2 _ rfl) (v := f2001_9) t2001_9 (n := f2001_10) (by first | omega | decide | assumption)) (cwI 2 hts gX5_readStatement_X0_init rfl rfl rfl (hts _ mX5_readStatement_4) (hts _ mX5_readStatement_156) (hts _ mX5_readStatement_157) rfl hdX0_init_o ⟨Nat.le_of_ble_eq_true rfl, Nat.le_of_ble_eq_true rfl⟩) hN hE hL rfl rfl hl.1 (Nat.le_of_ble_eq_true rfl) dX5_readStatement_125 (show 1 + 2 ≤ 3 by omega) (show (0 + 2) + 616 ≤ 618 by omega) (fun H1 locs hL hqr2003 => ?_)
                  obtain ⟨κr2003, hxr2003, hT1, hF1, hqr2003⟩ := hqr2003
                  have hF := hF.tr (hF1.mono (by simp))
                  have hT := hT1
                  have hKF : KF κ κr2003 := hxr2003.f
                  have hKX : KX κ κr2003 := hxr2003
                  have hw := (hxr2003.f.t2 hw (by decide))
                  have hsu := (hxr2003.f.t2 hsu (by decide))
                  have hq2002 := hqr2003
                  obtain ⟨hb2004, e2004, hat2004, hk2004⟩ := hT.o7 hsu.1
                  obtain ⟨f2004_0, f2004_1, f2004_2, f2004_3, f2004_4, f2004_5, f2004_6, f2004_7, rfl, c2004_0, c2004_3, c2004_mg, t2004_4, t2004_5, t2004_6, t2004_7⟩ := hk2004
                  rw [hsu.2] at t2004_4
                  rw [hsu.2] at t2004_5
                  rw [hsu.2] at t2004_6
                  rw [hsu.2] at t2004_7
                  have hP : va_P D vwCl [((κ w).2.2.2, .inr (6, [.int (nI f2004_0), .int f2004_1, .int f2004_2, f2004_3, .ref f2004_4, .ref f2004_5, .ref f2004_6, .ref f2004_7]))] _ := va_P.cons hat2004 va_P.nil
                  have hB : Bx B0 D _ [((κ w).2.2.2, .inr (6, [.int (nI f2004_0), .int f2004_1, .int f2004_2, f2004_3, .ref f2004_4, .ref f2004_5, .ref f2004_6, .ref f2004_7]))] [] _ _ := Bx.of (fun a => (κr2003 a).1) hL hP (fa_c hb2004 fa_n) (by simp only [List.map_cons, List.map_nil, hsu.1]; decide)
                  refine b_putN (D := D) (ci := 6) (v := .ref q2002) (ty := .object "OneBeat$Formula") (C := RX6) (T := TX6) (N := 8) hx hb hts iX5_readStatement_6 tyX6 tyX6_ok nmX6 hown hN hB 0 rfl rfl 3 (by decide) (hN.f 44 rfl) (fun _ h9 => h9) rfl (by decide +kernel) rfl rfl (Nat.le_of_ble_eq_true rfl) (.inl rfl) dX5_readStatement_128 (fun H locs hB => ?_)
                  have hB : Bx B0 D _ [((κ w).2.2.2, .inr (6, [.int (nI f2004_0), .int f2004_1, .int f2004_2, .ref q2002, .ref f2004_4, .ref f2004_5, .ref f2004_6, .ref f2004_7]))] [(κ w).2.2.2] _ _ := hB
                  refine lv_iconst (v := 1) hx hb dX5_readStatement_131 (by decide) ?_
                  have hF : Fr B0 [10, 11] κ H0 _ := hF.closeN hB (fa_c (fun h9 => by rw [← (hKF _ h9).2, hsu.2]; simp) fa_n)
                  have hT : WT B0 D cs T (kp κr2003 (κ w).2.2.2 1 0) _ := hT.closeK (κ w).2.2.2 1 0 hB (by rw [hsu.1]; decide) (by rw [hsu.1]; decide) (List.mem_of_getElem? (i := 0) rfl) ⟨⟨0, _, rfl, kp_ok (ok_7 (k := ((κr2003 (κ w).2.2.2).1, (κr2003 (κ w).2.2.2).2.1, _, _)) hsu.1 ⟨_, _, _, _, _, _, _, _, rfl, (by omega), (Or.inr ⟨_, rfl, (t2kp hq2002)⟩), (Or.inr ⟨_, rfl⟩), ⟨(t2kp t2004_4).1, by rw [hsu.2]; exact (t2kp t2004_4).2⟩, ⟨(t2kp t2004_5).1, by rw [hsu.2]; exact (t2kp t2004_5).2⟩, ⟨(t2kp t2004_6).1, by rw [hsu.2]; exact (t2kp t2004_6).2⟩, ⟨(t2kp t2004_7).1, by rw [hsu.2]; exact (t2kp t2004_7).2⟩⟩)⟩, trivial⟩
                  have hL : OkL B0 _ := hB.2.2.2.2.2
                  have hsu := t2kp (x := 1) (y := 0) (a := (κ w).2.2.2) hsu
                  refine W.know (fun hg => ?_)
                  rw [hH0] at hg
                  exact en_i hx hb hr hlocks hL rfl (show 3 ≤ 3 by omega) (show ((0 + 2) + 616) ≤ 618 by omega) dX5_readStatement_132 (⟨_, (fun a h1 h2 => (kp_n h2).trans (hKX a h1)), hT, hF, hsu, Or.inr ⟨hmg1, by rw [kp_a], hg.mono (by omega) (by omega)⟩, Or.inr rfl⟩)
              · refine va_getN (D := D) (ci := 6) (v := .ref a1997) (C := RX6) (T := TX6) (N := 8) hx hb hts iX5_readStatement_6 hown hN.1 hP 0 rfl rfl 3 (by decide) (hN.f 44 rfl) (fun _ h9 => h9) rfl dX5_readStatement_89 ?_
                refine lv_ifnonnull (tgt := 133) hx hb dX5_readStatement_92 (by decide) ?_
                refine lv_aload_n hx hb dX5_readStatement_133 rfl (lv_at hl 0 rfl) ?_
                refine lv_bipush (v := (-2)) hx hb dX5_readStatement_134 (by decide) ?_
                refine lv_aload_n hx hb dX5_readStatement_136 rfl (lv_at hl 0 rfl) ?_
                refine va_get (D := D) (ci := 5) (v := .int (nI f1991_5)) (C := RX5) (T := TX5) (N := 14) hx hb hts iX5_readStatement_5 hown hN.1 hP 1 rfl rfl 5 (by decide) (hts _ mX5_readStatement_7) (fun _ h9 => h9) rfl dX5_readStatement_137 ?_
                refine cv_i (As := [.int (-2), .int (nI f1991_5)]) (rest := []) (b := w) ⟨hx, hb, hml, hown, hts⟩ (c_X5_fail hT (w := w) hw (x := (-2)) (y := (nI f1991_5))) (cwV 2 hts gX5_readStatement_X5_fail rfl rfl rfl hdX5_fail_v ⟨Nat.le_of_ble_eq_true rfl, Nat.le_of_ble_eq_true rfl⟩) hN hE hL (rcv6 hN hT hw.1) rfl rfl hl.1 (Nat.le_of_ble_eq_true rfl) dX5_readStatement_140 (Nat.zero_le _) (Nat.zero_le _) (fun r2005 H1 locs hL hqr2005 => ?_)
                obtain ⟨hT1, hF1, hqr2005⟩ := hqr2005
                have hP : va_P D vwCl [((κ w).2.2.2, .inr (6, [.int (nI f1992_0), .int f1992_1, .int f1992_2, .ref a1997, .ref f1992_4, .ref f1992_5, .ref f1992_6, .ref f1992_7]))] _ := hF1.hP (hP.sub [0] rfl) (fa_c ⟨by rw [hsu.1]; decide, by rw [hsu.2]; first | decide | (simp; done) | (simp; omega)⟩ fa_n)
                have hF := hF.tr (hF1.mono (by simp))
                have hT := hT1
                obtain rfl := hqr2005
                refine W.know (fun hg => ?_)
                rw [hH0] at hg
                exact en_i hx hb hr hlocks hL rfl (Nat.zero_le _) (Nat.zero_le _) dX5_readStatement_143 (⟨_, (fun _ _ _ => rfl), hT, hF, hsu, Or.inl ⟨rfl, hg⟩, Or.inl rfl⟩)
          · refine lv_if_eq (tgt := 76) hx hb dX5_readStatement_58 (by decide) (fun c9 => absurd c9 (by decide)) (fun _ => ?_)
            refine lv_aload_n hx hb dX5_readStatement_61 rfl (lv_at hl 0 rfl) ?_
            refine va_get (D := D) (ci := 5) (v := .ref (κ w).2.2.2) (C := RX5) (T := TX5) (N := 14) hx hb hts iX5_readStatement_5 hown hN.1 hP 1 rfl rfl 11 (by decide) (hts _ mX5_readStatement_1) (fun _ h9 => h9) rfl dX5_readStatement_62 ?_
            refine va_getN (D := D) (ci := 6) (v := .int f1992_2) (C := RX6) (T := TX6) (N := 8) hx hb hts iX5_readStatement_6 hown hN.1 hP 0 rfl rfl 2 (by decide) (hN.f 42 rfl) (fun _ h9 => h9) rfl dX5_readStatement_65 ?_
            refine lv_if_ne (tgt := 76) hx hb dX5_readStatement_68 (by decide) (fun c2006 => ?_) (fun c2006 => ?_)
            · refine lv_aload_n hx hb dX5_readStatement_76 rfl (lv_at hl 0 rfl) ?_
              refine va_ldcS hx hb hown (hN.s 6 rfl) dX5_readStatement_77 ?_
              refine cv_i (As := [.ref (cs 106)]) (rest := []) (b := w) ⟨hx, hb, hml, hown, hts⟩ (c_X5_isWord hT (w := w) hw (i := 6) (by decide)) (cwV 1 hts gX5_readStatement_X5_isWord rfl rfl rfl hdX5_isWord_v ⟨Nat.le_of_ble_eq_true rfl, Nat.le_of_ble_eq_true rfl⟩) hN hE hL (rcv6 hN hT hw.1) rfl rfl hl.1 (Nat.le_of_ble_eq_true rfl) dX5_readStatement_79 (Nat.zero_le _) (Nat.zero_le _) (fun r2007 H1 locs hL hqr2007 => ?_)
              obtain ⟨h9, hqr2007⟩ := hqr2007; replace h9 := h9.symm; subst h9
              rcases hqr2007 with rfl | rfl
              · refine lv_if_eq (tgt := 133) hx hb dX5_readStatement_82 (by decide) (fun _ => ?_) (fun c9 => absurd (by decide) c9)
                refine lv_aload_n hx hb dX5_readStatement_133 rfl (lv_at hl 0 rfl) ?_
                refine lv_bipush (v := (-2)) hx hb dX5_readStatement_134 (by decide) ?_
                refine lv_aload_n hx hb dX5_readStatement_136 rfl (lv_at hl 0 rfl) ?_
                refine va_get (D := D) (ci := 5) (v := .int (nI f1991_5)) (C := RX5) (T := TX5) (N := 14) hx hb hts iX5_readStatement_5 hown hN.1 hP 1 rfl rfl 5 (by decide) (hts _ mX5_readStatement_7) (fun _ h9 => h9) rfl dX5_readStatement_137 ?_
                refine cv_i (As := [.int (-2), .int (nI f1991_5)]) (rest := []) (b := w) ⟨hx, hb, hml, hown, hts⟩ (c_X5_fail hT (w := w) hw (x := (-2)) (y := (nI f1991_5))) (cwV 2 hts gX5_readStatement_X5_fail rfl rfl rfl hdX5_fail_v ⟨Nat.le_of_ble_eq_true rfl, Nat.le_of_ble_eq_true rfl⟩) hN hE hL (rcv6 hN hT hw.1) rfl rfl hl.1 (Nat.le_of_ble_eq_true rfl) dX5_readStatement_140 (Nat.zero_le _) (Nat.zero_le _) (fun r2008 H1 locs hL hqr2008 => ?_)
                obtain ⟨hT1, hF1, hqr2008⟩ := hqr2008
                have hP : va_P D vwCl [((κ w).2.2.2, .inr (6, [.int (nI f1992_0), .int f1992_1, .int f1992_2, f1992_3, .ref f1992_4, .ref f1992_5, .ref f1992_6, .ref f1992_7]))] _ := hF1.hP (hP.sub [0] rfl) (fa_c ⟨by rw [hsu.1]; decide, by rw [hsu.2]; first | decide | (simp; done) | (simp; omega)⟩ fa_n)
                have hF := hF.tr (hF1.mono (by simp))
                have hT := hT1
                obtain rfl := hqr2008
                refine W.know (fun hg => ?_)
                rw [hH0] at hg
                exact en_i hx hb hr hlocks hL rfl (Nat.zero_le _) (Nat.zero_le _) dX5_readStatement_143 (⟨_, (fun _ _ _ => rfl), hT, hF, hsu, Or.inl ⟨rfl, hg⟩, Or.inl rfl⟩)
              · refine lv_if_eq (tgt := 133) hx hb dX5_readStatement_82 (by decide) (fun c9 => absurd c9 (by decide)) (fun _ => ?_)
                refine lv_aload_n hx hb dX5_readStatement_85 rfl (lv_at hl 0 rfl) ?_
                refine va_get (D := D) (ci := 5) (v := .ref (κ w).2.2.2) (C := RX5) (T := TX5) (N := 14) hx hb hts iX5_readStatement_5 hown hN.1 hP 1 rfl rfl 11 (by decide) (hts _ mX5_readStatement_1) (fun _ h9 => h9) rfl dX5_readStatement_86 ?_
                rcases c1992_3 with rfl | ⟨a2009, rfl, ta2009⟩
                · refine va_getN (D := D) (ci := 6) (v := .null) (C := RX6) (T := TX6) (N := 8) hx hb hts iX5_readStatement_6 hown hN.1 hP 0 rfl rfl 3 (by decide) (hN.f 44 rfl) (fun _ h9 => h9) rfl dX5_readStatement_89 ?_
                  refine lv_ifnonnullN hx hb dX5_readStatement_92 ?_
                  have hmg1 : (κ (κ w).2.2.2).2.2.1 ≠ 1 := (c1992_mg).resolve_right (by rintro ⟨_, h9⟩; cases h9)
                  refine lv_aload_n hx hb dX5_readStatement_95 rfl (lv_at hl 0 rfl) ?_
                  refine cv_v (As := []) (rest := []) (b := w) ⟨hx, hb, hml, hown, hts⟩ (c_X5_step hT (w := w) hw) (cwV 0 hts gX5_readStatement_X5_step rfl rfl rfl hdX5_step_v ⟨Nat.le_of_ble_eq_true rfl, Nat.le_of_ble_eq_true rfl⟩) hN hE hL (rcv6 hN hT hw.1) rfl rfl hl.1 (Nat.le_of_ble_eq_true rfl) dX5_readStatement_96 (Nat.zero_le _) (Nat.zero_le _) (fun H1 locs hL hqr2010 => ?_)
                  obtain ⟨hT1, hF1, hqr2010⟩ := hqr2010
                  have hP : va_P D vwCl [((κ w).2.2.2, .inr (6, [.int (nI f1992_0), .int f1992_1, .int f1992_2, .null, .ref f1992_4, .ref f1992_5, .ref f1992_6, .ref f1992_7]))] _ := hF1.hP (hP.sub [0] rfl) (fa_c ⟨by rw [hsu.1]; decide, by rw [hsu.2]; first | decide | (simp; done) | (simp; omega)⟩ fa_n)
                  have hF := hF.tr (hF1.mono (by simp))
                  have hT := hT1
                  have f2011 := hqr2010
                  refine lv_aload_n hx hb dX5_readStatement_99 rfl (lv_at hl 0 rfl) ?_
                  refine lv_iconst (v := 0) hx hb dX5_readStatement_100 (by decide) ?_
                  refine cv_i (As := [.int 0]) (rest := []) (b := w) ⟨hx, hb, hml, hown, hts⟩ (c_X5_readSum_d0 hT (w := w) hw) (cwV 1 hts gX5_readStatement_X5_readSum rfl rfl rfl hdX5_readSum_v ⟨Nat.le_of_ble_eq_true rfl, Nat.le_of_ble_eq_true rfl⟩) hN hE hL (rcv6 hN hT hw.1) rfl rfl hl.1 (Nat.le_of_ble_eq_true rfl) dX5_readStatement_101 (Nat.zero_le _) (Nat.zero_le _) (fun r2012 H1 locs hL hqr2012 => ?_)
                  obtain ⟨hT1, hF1, hqr2012⟩ := hqr2012
                  have hP : va_P D vwCl [((κ w).2.2.2, .inr (6, [.int (nI f1992_0), .int f1992_1, .int f1992_2, .null, .ref f1992_4, .ref f1992_5, .ref f1992_6, .ref f1992_7]))] _ := hF1.hP (hP.sub [0] rfl) (fa_c ⟨by rw [hsu.1]; decide, by rw [hsu.2]; first | decide | (simp; done) | (simp; omega)⟩ fa_n)
                  have hF := hF.tr (hF1.mono (by simp))
                  have hT := hT1
                  rcases hqr2012 with rfl | rfl
                  · refine lv_if_ne (tgt := 109) hx hb dX5_readStatement_104 (by decide) (fun c9 => absurd (by decide) c9) (fun _ => ?_)
                    refine lv_iconst (v := 0) hx hb dX5_readStatement_107 (by decide) ?_
                    refine W.know (fun hg => ?_)
                    rw [hH0] at hg
                    exact en_i hx hb hr hlocks hL rfl (Nat.zero_le _) (Nat.zero_le _) dX5_readStatement_108 (⟨_, (fun _ _ _ => rfl), hT, hF, hsu, Or.inl ⟨rfl, hg⟩, Or.inl rfl⟩)
                  · refine lv_if_ne (tgt := 109) hx hb dX5_readStatement_104 (by decide) (fun _ => ?_) (fun c9 => absurd c9 (by decide))
                    refine lv_aload_n hx hb dX5_readStatement_109 rfl (lv_at hl 0 rfl) ?_
                    obtain ⟨hb2013, e2013, hat2013, hk2013⟩ := hT.o6 hw.1
                    obtain ⟨f2013_0, f2013_2, f2013_3, f2013_4, f2013_5, f2013_6, f2013_7, f2013_8, f2013_9, f2013_10, f2013_11, f2013_12, f2013_13, rfl, c2013_1, c2013_2, c2013_3, c2013_5, c2013_10, t2013_0, t2013_9, c2013_11, c2013_p2⟩ := hk2013
                    obtain rfl : f2013_11 = .ref (κ w).2.2.2 := c2013_p2.resolve_left hs0
                    have hP : va_P D vwCl [(w, .inr (5, [.ref f2013_0, .int (nI ((κ w).2.2.1)), .int (nI f2013_2), .int (nI f2013_3), .int f2013_4, .int (nI f2013_5), .int f2013_6, .int f2013_7, .int f2013_8, .ref f2013_9, .int (nI f2013_10), .ref (κ w).2.2.2, .int f2013_12, .int f2013_13])), ((κ w).2.2.2, .inr (6, [.int (nI f1992_0), .int f1992_1, .int f1992_2, .null, .ref f1992_4, .ref f1992_5, .ref f1992_6, .ref f1992_7]))] _ := va_P.cons hat2013 hP
                    refine va_get (D := D) (ci := 5) (v := .ref (κ w).2.2.2) (C := RX5) (T := TX5) (N := 14) hx hb hts iX5_readStatement_5 hown hN.1 hP 0 rfl rfl 11 (by decide) (hts _ mX5_readStatement_1) (fun _ h9 => h9) rfl dX5_readStatement_110 ?_
                    have hb0 : B0 ≤ _ := hT.b0 hw (by decide)
                    have hB : Bx B0 D _ [(w, .inr (5, [.ref f2013_0, .int (nI ((κ w).2.2.1)), .int (nI f2013_2), .int (nI f2013_3), .int f2013_4, .int (nI f2013_5), .int f2013_6, .int f2013_7, .int f2013_8, .ref f2013_9, .int (nI f2013_10), .ref (κ w).2.2.2, .int f2013_12, .int f2013_13])), ((κ w).2.2.2, .inr (6, [.int (nI f1992_0), .int f1992_1, .int f1992_2, .null, .ref f1992_4, .ref f1992_5, .ref f1992_6, .ref f1992_7]))] [] _ _ := Bx.of (fun a => (κ a).1) hL hP (fa_c hb2013 (fa_c hb1992 fa_n)) (by simp only [List.map_cons, List.map_nil, hw.1, hsu.1]; decide)
                    refine nw_o (ci := 0) (fs := [.null, .null]) (C := RX0) (T := TX0) (N := 2) hx hb hts iX5_readStatement_0 tyX0 tyX0_ok hown (hts _ mX5_readStatement_2) (hts _ mX5_readStatement_3) (hts _ mX5_readStatement_4) hN rfl dfl0 (show 0 + 1 ≤ 3 by omega) (show 0 + 2 ≤ 618 by omega) dX5_readStatement_113 (fun q2014 H heq2014 hzq2014 hoq2014 hatq2014 => ?_)
                    have hgeq2014 : _ ≤ q2014 := Nat.le_trans hB.2.2.1 (Nat.le_of_eq heq2014.symm)
                    have hbq2014 : B0 ≤ q2014 := Nat.le_trans hb0 hgeq2014
                    have hfq2014 : (κ q2014).1 = 0 := hT.fresh hgeq2014
                    have hB := hB.nw heq2014 hzq2014 hoq2014 hatq2014 hb0
                    have hB : Bx B0 D _ [(w, .inr (5, [.ref f2013_0, .int (nI ((κ w).2.2.1)), .int (nI f2013_2), .int (nI f2013_3), .int f2013_4, .int (nI f2013_5), .int f2013_6, .int f2013_7, .int f2013_8, .ref f2013_9, .int (nI f2013_10), .ref (κ w).2.2.2, .int f2013_12, .int f2013_13])), ((κ w).2.2.2, .inr (6, [.int (nI f1992_0), .int f1992_1, .int f1992_2, .null, .ref f1992_4, .ref f1992_5, .ref f1992_6, .ref f1992_7])), (q2014, .inr (0, [.null, .null]))] [] _ _ := hB
                    refine lv_dup hx hb dX5_readStatement_116 rfl ?_
                    refine lv_aload_n hx hb dX5_readStatement_117 rfl (lv_at hl 0 rfl) ?_
                    refine va_get (D := D) (ci := 5) (v := .ref f2013_9) (C := RX5) (T := TX5) (N := 14) hx hb hts iX5_readStatement_5 hown hN.1 hB.1 0 rfl rfl 9 (by decide) (hts _ mX5_readStatement_5) (fun _ h9 => h9) rfl dX5_readStatement_118 ?_
                    refine lv_aload_n hx hb dX5_readStatement_121 rfl (lv_at hl 0 rfl) ?_
                    refine va_get (D := D) (ci := 5) (v := .int (nI f2013_10)) (C := RX5) (T := TX5) (N := 14) hx hb hts iX5_readStatement_5 hown hN.1 hB.1 0 rfl rfl 10 (by decide) (hts _ mX5_readStatement_6) (fun _ h9 => h9) rfl dX5_readStatement_122 ?_
                    have hT : WT B0 D cs T κ _ := hT.close hB trivial
                    have hF : Fr B0 [10, 11] κ H0 _ := hF.close hB fa_n
                    have hL : OkL B0 _ := hB.2.2.2.2.2
                    have hP : va_P D vwCl [(w, .inr (5, [.ref f2013_0, .int (nI ((κ w).2.2.1)), .int (nI f2013_2), .int (nI f2013_3), .int f2013_4, .int (nI f2013_5), .int f2013_6, .int f2013_7, .int f2013_8, .ref f2013_9, .int (nI f2013_10), .ref (κ w).2.2.2, .int f2013_12, .int f2013_13])), ((κ w).2.2.2, .inr (6, [.int (nI f1992_0), .int f1992_1, .int f1992_2, .null, .ref f1992_4, .ref f1992_5, .ref f1992_6, .ref f1992_7])), (q2014, .inr (0, [.null, .null]))] _ := hB.1
                    refine ci_v (As := [.ref f2013_9, .int (nI f2013_10)]) (rest := [.ref q2014, .ref (κ w).2.2.2]) (b := q2014) ⟨hx, hb, hml, hown, hts⟩ (c_X0_init hT (w := q2014) hfq2014 hbq2014 (hP 2 _ rfl) (v := f2013_9) t2013_9 (n := f2013_10) (by first | omega | decide | assumption)) (cwI 2 hts gX5_readStatement_X0_init rfl rfl rfl (hts _ mX5_readStatement_4) (hts _ mX5_readStatement_156) (hts _ mX5_readStatement_157) rfl hdX0_init_o ⟨Nat.le_of_ble_eq_true rfl, Nat.le_of_ble_eq_true rfl⟩) hN hE hL rfl rfl hl.1 (Nat.le_of_ble_eq_true rfl) dX5_readStatement_125 (show 1 + 2 ≤ 3 by omega) (show (0 + 2) + 616 ≤ 618 by omega) (fun H1 locs hL hqr2015 => ?_)
                    obtain ⟨κr2015, hxr2015, hT1, hF1, hqr2015⟩ := hqr2015
                    have hF := hF.tr (hF1.mono (by simp))
                    have hT := hT1
                    have hKF : KF κ κr2015 := hxr2015.f
                    have hKX : KX κ κr2015 := hxr2015
                    have hw := (hxr2015.f.t2 hw (by decide))
                    have hsu := (hxr2015.f.t2 hsu (by decide))
                    have hq2014 := hqr2015
                    obtain ⟨hb2016, e2016, hat2016, hk2016⟩ := hT.o7 hsu.1
                    obtain ⟨f2016_0, f2016_1, f2016_2, f2016_3, f2016_4, f2016_5, f2016_6, f2016_7, rfl, c2016_0, c2016_3, c2016_mg, t2016_4, t2016_5, t2016_6, t2016_7⟩ := hk2016
                    rw [hsu.2] at t2016_4
                    rw [hsu.2] at t2016_5
                    rw [hsu.2] at t2016_6
                    rw [hsu.2] at t2016_7
                    have hP : va_P D vwCl [((κ w).2.2.2, .inr (6, [.int (nI f2016_0), .int f2016_1, .int f2016_2, f2016_3, .ref f2016_4, .ref f2016_5, .ref f2016_6, .ref f2016_7]))] _ := va_P.cons hat2016 va_P.nil
                    have hB : Bx B0 D _ [((κ w).2.2.2, .inr (6, [.int (nI f2016_0), .int f2016_1, .int f2016_2, f2016_3, .ref f2016_4, .ref f2016_5, .ref f2016_6, .ref f2016_7]))] [] _ _ := Bx.of (fun a => (κr2015 a).1) hL hP (fa_c hb2016 fa_n) (by simp only [List.map_cons, List.map_nil, hsu.1]; decide)
                    refine b_putN (D := D) (ci := 6) (v := .ref q2014) (ty := .object "OneBeat$Formula") (C := RX6) (T := TX6) (N := 8) hx hb hts iX5_readStatement_6 tyX6 tyX6_ok nmX6 hown hN hB 0 rfl rfl 3 (by decide) (hN.f 44 rfl) (fun _ h9 => h9) rfl (by decide +kernel) rfl rfl (Nat.le_of_ble_eq_true rfl) (.inl rfl) dX5_readStatement_128 (fun H locs hB => ?_)
                    have hB : Bx B0 D _ [((κ w).2.2.2, .inr (6, [.int (nI f2016_0), .int f2016_1, .int f2016_2, .ref q2014, .ref f2016_4, .ref f2016_5, .ref f2016_6, .ref f2016_7]))] [(κ w).2.2.2] _ _ := hB
                    refine lv_iconst (v := 1) hx hb dX5_readStatement_131 (by decide) ?_
                    have hF : Fr B0 [10, 11] κ H0 _ := hF.closeN hB (fa_c (fun h9 => by rw [← (hKF _ h9).2, hsu.2]; simp) fa_n)
                    have hT : WT B0 D cs T (kp κr2015 (κ w).2.2.2 1 0) _ := hT.closeK (κ w).2.2.2 1 0 hB (by rw [hsu.1]; decide) (by rw [hsu.1]; decide) (List.mem_of_getElem? (i := 0) rfl) ⟨⟨0, _, rfl, kp_ok (ok_7 (k := ((κr2015 (κ w).2.2.2).1, (κr2015 (κ w).2.2.2).2.1, _, _)) hsu.1 ⟨_, _, _, _, _, _, _, _, rfl, (by omega), (Or.inr ⟨_, rfl, (t2kp hq2014)⟩), (Or.inr ⟨_, rfl⟩), ⟨(t2kp t2016_4).1, by rw [hsu.2]; exact (t2kp t2016_4).2⟩, ⟨(t2kp t2016_5).1, by rw [hsu.2]; exact (t2kp t2016_5).2⟩, ⟨(t2kp t2016_6).1, by rw [hsu.2]; exact (t2kp t2016_6).2⟩, ⟨(t2kp t2016_7).1, by rw [hsu.2]; exact (t2kp t2016_7).2⟩⟩)⟩, trivial⟩
                    have hL : OkL B0 _ := hB.2.2.2.2.2
                    have hsu := t2kp (x := 1) (y := 0) (a := (κ w).2.2.2) hsu
                    refine W.know (fun hg => ?_)
                    rw [hH0] at hg
                    exact en_i hx hb hr hlocks hL rfl (show 3 ≤ 3 by omega) (show ((0 + 2) + 616) ≤ 618 by omega) dX5_readStatement_132 (⟨_, (fun a h1 h2 => (kp_n h2).trans (hKX a h1)), hT, hF, hsu, Or.inr ⟨hmg1, by rw [kp_a], hg.mono (by omega) (by omega)⟩, Or.inr rfl⟩)
                · refine va_getN (D := D) (ci := 6) (v := .ref a2009) (C := RX6) (T := TX6) (N := 8) hx hb hts iX5_readStatement_6 hown hN.1 hP 0 rfl rfl 3 (by decide) (hN.f 44 rfl) (fun _ h9 => h9) rfl dX5_readStatement_89 ?_
                  refine lv_ifnonnull (tgt := 133) hx hb dX5_readStatement_92 (by decide) ?_
                  refine lv_aload_n hx hb dX5_readStatement_133 rfl (lv_at hl 0 rfl) ?_
                  refine lv_bipush (v := (-2)) hx hb dX5_readStatement_134 (by decide) ?_
                  refine lv_aload_n hx hb dX5_readStatement_136 rfl (lv_at hl 0 rfl) ?_
                  refine va_get (D := D) (ci := 5) (v := .int (nI f1991_5)) (C := RX5) (T := TX5) (N := 14) hx hb hts iX5_readStatement_5 hown hN.1 hP 1 rfl rfl 5 (by decide) (hts _ mX5_readStatement_7) (fun _ h9 => h9) rfl dX5_readStatement_137 ?_
                  refine cv_i (As := [.int (-2), .int (nI f1991_5)]) (rest := []) (b := w) ⟨hx, hb, hml, hown, hts⟩ (c_X5_fail hT (w := w) hw (x := (-2)) (y := (nI f1991_5))) (cwV 2 hts gX5_readStatement_X5_fail rfl rfl rfl hdX5_fail_v ⟨Nat.le_of_ble_eq_true rfl, Nat.le_of_ble_eq_true rfl⟩) hN hE hL (rcv6 hN hT hw.1) rfl rfl hl.1 (Nat.le_of_ble_eq_true rfl) dX5_readStatement_140 (Nat.zero_le _) (Nat.zero_le _) (fun r2017 H1 locs hL hqr2017 => ?_)
                  obtain ⟨hT1, hF1, hqr2017⟩ := hqr2017
                  have hP : va_P D vwCl [((κ w).2.2.2, .inr (6, [.int (nI f1992_0), .int f1992_1, .int f1992_2, .ref a2009, .ref f1992_4, .ref f1992_5, .ref f1992_6, .ref f1992_7]))] _ := hF1.hP (hP.sub [0] rfl) (fa_c ⟨by rw [hsu.1]; decide, by rw [hsu.2]; first | decide | (simp; done) | (simp; omega)⟩ fa_n)
                  have hF := hF.tr (hF1.mono (by simp))
                  have hT := hT1
                  obtain rfl := hqr2017
                  refine W.know (fun hg => ?_)
                  rw [hH0] at hg
                  exact en_i hx hb hr hlocks hL rfl (Nat.zero_le _) (Nat.zero_le _) dX5_readStatement_143 (⟨_, (fun _ _ _ => rfl), hT, hF, hsu, Or.inl ⟨rfl, hg⟩, Or.inl rfl⟩)
            · refine lv_aload_n hx hb dX5_readStatement_71 rfl (lv_at hl 0 rfl) ?_
              refine cv_i (As := []) (rest := []) (b := w) ⟨hx, hb, hml, hown, hts⟩ (c_X5_readPatience hT (w := w) hw (by first | omega | decide | assumption) (by first | omega | decide | assumption)) (cwV 0 hts gX5_readStatement_X5_readPatience rfl rfl rfl hdX5_readPatience_v ⟨Nat.le_of_ble_eq_true rfl, Nat.le_of_ble_eq_true rfl⟩) hN hE hL (rcv6 hN hT hw.1) rfl rfl hl.1 (Nat.le_of_ble_eq_true rfl) dX5_readStatement_72 (Nat.zero_le _) (Nat.zero_le _) (fun r2018 H1 locs hL hqr2018 => ?_)
              obtain ⟨hT1, hF1, hqr2018⟩ := hqr2018
              have hF := hF.tr (hF1.mono (by simp))
              have hT := hT1
              rcases hqr2018 with rfl | rfl
              · refine W.know (fun hg => ?_)
                rw [hH0] at hg
                exact en_i hx hb hr hlocks hL rfl (Nat.zero_le _) (Nat.zero_le _) dX5_readStatement_75 (⟨_, (fun _ _ _ => rfl), hT, hF, hsu, Or.inl ⟨rfl, hg⟩, Or.inl rfl⟩)
              · refine W.know (fun hg => ?_)
                rw [hH0] at hg
                exact en_i hx hb hr hlocks hL rfl (Nat.zero_le _) (Nat.zero_le _) dX5_readStatement_75 (⟨_, (fun _ _ _ => rfl), hT, hF, hsu, Or.inl ⟨rfl, hg⟩, Or.inr rfl⟩)
        · refine lv_aload_n hx hb dX5_readStatement_47 rfl (lv_at hl 0 rfl) ?_
          refine cv_i (As := []) (rest := []) (b := w) ⟨hx, hb, hml, hown, hts⟩ (c_X5_readNeed hT (w := w) hw (by first | omega | decide | assumption) (by first | omega | decide | assumption)) (cwV 0 hts gX5_readStatement_X5_readNeed rfl rfl rfl hdX5_readNeed_v ⟨Nat.le_of_ble_eq_true rfl, Nat.le_of_ble_eq_true rfl⟩) hN hE hL (rcv6 hN hT hw.1) rfl rfl hl.1 (Nat.le_of_ble_eq_true rfl) dX5_readStatement_48 (Nat.zero_le _) (Nat.zero_le _) (fun r2019 H1 locs hL hqr2019 => ?_)
          obtain ⟨hT1, hF1, hqr2019⟩ := hqr2019
          have hF := hF.tr (hF1.mono (by simp))
          have hT := hT1
          rcases hqr2019 with rfl | rfl
          · refine W.know (fun hg => ?_)
            rw [hH0] at hg
            exact en_i hx hb hr hlocks hL rfl (Nat.zero_le _) (Nat.zero_le _) dX5_readStatement_51 (⟨_, (fun _ _ _ => rfl), hT, hF, hsu, Or.inl ⟨rfl, hg⟩, Or.inl rfl⟩)
          · refine W.know (fun hg => ?_)
            rw [hH0] at hg
            exact en_i hx hb hr hlocks hL rfl (Nat.zero_le _) (Nat.zero_le _) dX5_readStatement_51 (⟨_, (fun _ _ _ => rfl), hT, hF, hsu, Or.inl ⟨rfl, hg⟩, Or.inr rfl⟩)
    · refine lv_if_eq (tgt := 28) hx hb dX5_readStatement_20 (by decide) (fun c9 => absurd c9 (by decide)) (fun _ => ?_)
      refine lv_aload_n hx hb dX5_readStatement_23 rfl (lv_at hl 0 rfl) ?_
      refine cv_i (As := []) (rest := []) (b := w) ⟨hx, hb, hml, hown, hts⟩ (c_X5_readLink hT (w := w) hw (by first | omega | decide | assumption) (by first | omega | decide | assumption)) (cwV 0 hts gX5_readStatement_X5_readLink rfl rfl rfl hdX5_readLink_v ⟨Nat.le_of_ble_eq_true rfl, Nat.le_of_ble_eq_true rfl⟩) hN hE hL (rcv6 hN hT hw.1) rfl rfl hl.1 (Nat.le_of_ble_eq_true rfl) dX5_readStatement_24 (Nat.zero_le _) (Nat.zero_le _) (fun r2020 H1 locs hL hqr2020 => ?_)
      obtain ⟨hT1, hF1, hqr2020⟩ := hqr2020
      have hF := hF.tr (hF1.mono (by simp))
      have hT := hT1
      rcases hqr2020 with rfl | rfl
      · refine W.know (fun hg => ?_)
        rw [hH0] at hg
        exact en_i hx hb hr hlocks hL rfl (Nat.zero_le _) (Nat.zero_le _) dX5_readStatement_27 (⟨_, (fun _ _ _ => rfl), hT, hF, hsu, Or.inl ⟨rfl, hg⟩, Or.inl rfl⟩)
      · refine W.know (fun hg => ?_)
        rw [hH0] at hg
        exact en_i hx hb hr hlocks hL rfl (Nat.zero_le _) (Nat.zero_le _) dX5_readStatement_27 (⟨_, (fun _ _ _ => rfl), hT, hF, hsu, Or.inl ⟨rfl, hg⟩, Or.inr rfl⟩)
  · refine lv_if_eq (tgt := 14) hx hb dX5_readStatement_6 (by decide) (fun c9 => absurd c9 (by decide)) (fun _ => ?_)
    refine lv_aload_n hx hb dX5_readStatement_9 rfl (lv_at hl 0 rfl) ?_
    refine cv_i (As := []) (rest := []) (b := w) ⟨hx, hb, hml, hown, hts⟩ (c_X5_readClock hT (w := w) hw (by first | omega | decide | assumption) (by first | omega | decide | assumption)) (cwV 0 hts gX5_readStatement_X5_readClock rfl rfl rfl hdX5_readClock_v ⟨Nat.le_of_ble_eq_true rfl, Nat.le_of_ble_eq_true rfl⟩) hN hE hL (rcv6 hN hT hw.1) rfl rfl hl.1 (Nat.le_of_ble_eq_true rfl) dX5_readStatement_10 (Nat.zero_le _) (Nat.zero_le _) (fun r2021 H1 locs hL hqr2021 => ?_)
    obtain ⟨hT1, hF1, hqr2021⟩ := hqr2021
    have hF := hF.tr (hF1.mono (by simp))
    have hT := hT1
    rcases hqr2021 with rfl | rfl
    · refine W.know (fun hg => ?_)
      rw [hH0] at hg
      exact en_i hx hb hr hlocks hL rfl (Nat.zero_le _) (Nat.zero_le _) dX5_readStatement_13 (⟨_, (fun _ _ _ => rfl), hT, hF, hsu, Or.inl ⟨rfl, hg⟩, Or.inl rfl⟩)
    · refine W.know (fun hg => ?_)
      rw [hH0] at hg
      exact en_i hx hb hr hlocks hL rfl (Nat.zero_le _) (Nat.zero_le _) dX5_readStatement_13 (⟨_, (fun _ _ _ => rfl), hT, hF, hsu, Or.inl ⟨rfl, hg⟩, Or.inr rfl⟩)
theorem mX5_read_1 : (.fieldLink RX5 11 "OneBeat$Reader" "text" "[B" : Cond) ∈ wsX5_read := List.mem_of_getElem? (i := 1) (by decide +kernel)
theorem iX5_read_5 : ∀ w ∈ wsX50, w ∈ wsX5_read := fun w h => List.mem_of_mem_drop (List.mem_of_mem_take ((show wsX50 = (wsX5_read.drop 210).take 14 by decide +kernel) ▸ h))
theorem mX5_read_2 : (.methodLink RX5 23 Lib.Math.min.name : Cond) ∈ wsX5_read := List.mem_of_getElem? (i := 2) (by decide +kernel)
theorem mX5_read_3 : (.static Lib.Math.min.name : Cond) ∈ wsX5_read := List.mem_of_getElem? (i := 3) (by decide +kernel)
theorem mX5_read_4 : (.initialized "java/lang/Math" : Cond) ∈ wsX5_read := List.mem_of_getElem? (i := 4) (by decide +kernel)
theorem mX5_read_5 : (.code Lib.Math.min.name Lib.Math.min.code 2 (some .int) : Cond) ∈ wsX5_read := List.mem_of_getElem? (i := 5) (by decide +kernel)
theorem mX5_read_6 : (.methodLink RX5 29 Lib.Math.max.name : Cond) ∈ wsX5_read := List.mem_of_getElem? (i := 6) (by decide +kernel)
theorem mX5_read_7 : (.static Lib.Math.max.name : Cond) ∈ wsX5_read := List.mem_of_getElem? (i := 7) (by decide +kernel)
theorem mX5_read_8 : (.code Lib.Math.max.name Lib.Math.max.code 2 (some .int) : Cond) ∈ wsX5_read := List.mem_of_getElem? (i := 8) (by decide +kernel)
theorem mX5_read_9 : (.fieldLink RX5 32 "OneBeat$Reader" "length" "I" : Cond) ∈ wsX5_read := List.mem_of_getElem? (i := 9) (by decide +kernel)
theorem mX5_read_10 : (.fieldLink RX5 19 "OneBeat$Reader" "stored" "I" : Cond) ∈ wsX5_read := List.mem_of_getElem? (i := 10) (by decide +kernel)
theorem mX5_read_11 : (.fieldLink RX5 35 "OneBeat$Reader" "position" "I" : Cond) ∈ wsX5_read := List.mem_of_getElem? (i := 11) (by decide +kernel)
theorem mX5_read_12 : (.fieldLink RX5 38 "OneBeat$Reader" "codeCount" "I" : Cond) ∈ wsX5_read := List.mem_of_getElem? (i := 12) (by decide +kernel)
theorem mX5_read_13 : (.fieldLink RX5 41 "OneBeat$Reader" "errorStart" "I" : Cond) ∈ wsX5_read := List.mem_of_getElem? (i := 13) (by decide +kernel)
theorem hdX5_takeWord_v : yX5_takeWord.cls = RX5 ∧ yX5_takeWord.cls ≠ "java/lang/invoke/MethodHandle" ∧ yX5_takeWord.cls ≠ "java/lang/invoke/VarHandle" ∧ (parseMethodDescriptor yX5_takeWord.desc).map (fun d => d.parameters.length) = some 1 := by decide +kernel
theorem iX5_read_6 : ∀ w ∈ wsX60, w ∈ wsX5_read := fun w h => List.mem_of_mem_drop (List.mem_of_mem_take ((show wsX60 = (wsX5_read.drop 224).take 8 by decide +kernel) ▸ h))
theorem mX5_read_14 : (.classLink RX5 53 RX6 : Cond) ∈ wsX5_read := List.mem_of_getElem? (i := 14) (by decide +kernel)
theorem mX5_read_15 : (.instantiable RX6 8 : Cond) ∈ wsX5_read := List.mem_of_getElem? (i := 15) (by decide +kernel)
theorem mX5_read_16 : (.initialized RX6 : Cond) ∈ wsX5_read := List.mem_of_getElem? (i := 16) (by decide +kernel)
theorem dfl6 : ∀ j, j < 8 → defaultValue (tyX6 j) = vp_V [.int 0, .int 0, .int 0, .null, .null, .null, .null, .null] j := by decide +kernel
theorem mX5_read_17 : (.fieldLink RX5 59 "OneBeat$Reader" "taken" "I" : Cond) ∈ wsX5_read := List.mem_of_getElem? (i := 17) (by decide +kernel)
theorem mX5_read_96 : (.instanceMethod yX6_init : Cond) ∈ wsX5_read := List.mem_of_getElem? (i := 96) (by decide +kernel)
theorem mX5_read_95 : (.methodLink RX5 62 yX6_init : Cond) ∈ wsX5_read := List.mem_of_getElem? (i := 95) (by decide +kernel)
theorem hdX6_init_o : yX6_init.cls ≠ "java/lang/invoke/MethodHandle" ∧ yX6_init.cls ≠ "java/lang/invoke/VarHandle" ∧ (parseMethodDescriptor yX6_init.desc).map (fun d => d.parameters.length) = some 1 := by decide +kernel
theorem mX5_read_18 : (.fieldLink RX5 65 "OneBeat$Reader" "setup" "LOneBeat$Setup;" : Cond) ∈ wsX5_read := List.mem_of_getElem? (i := 18) (by decide +kernel)
theorem hdX6_fillIn_v : yX6_fillIn.cls = RX6 ∧ yX6_fillIn.cls ≠ "java/lang/invoke/MethodHandle" ∧ yX6_fillIn.cls ≠ "java/lang/invoke/VarHandle" ∧ (parseMethodDescriptor yX6_fillIn.desc).map (fun d => d.parameters.length) = some 0 := by decide +kernel
theorem mX5_read_19 : (.fieldLink RX5 73 "OneBeat$Reader" "kind" "I" : Cond) ∈ wsX5_read := List.mem_of_getElem? (i := 19) (by decide +kernel)
theorem hdX5_readStatement_v : yX5_readStatement.cls = RX5 ∧ yX5_readStatement.cls ≠ "java/lang/invoke/MethodHandle" ∧ yX5_readStatement.cls ≠ "java/lang/invoke/VarHandle" ∧ (parseMethodDescriptor yX5_readStatement.desc).map (fun d => d.parameters.length) = some 0 := by decide +kernel
set_option maxHeartbeats 4000000 in
set_option maxRecDepth 100000 in
theorem c_X5_read {l : Launch} {D : va_G} {cs : Nat → ClassId} {B0 T : Nat} {κ : KM} {H0 : Heap} (hT : WT B0 D cs T κ H0) {w : Nat} (hw : T2 κ w 6 10) {n : Nat} (hn : n ≤ 600) : KC l yX5_read wsX5_read 22 487 11 1332 D cs B0 H0 [.ref w, .int (nI n)] (Qn (fun r H => ∃ κ1, (∀ a, (κ a).1 ≠ 0 → a ≠ w → (κ a).2.1 ≠ 11 → κ1 a = κ a) ∧ (∀ a, (κ a).1 ≠ 0 → (κ1 a).1 = (κ a).1) ∧ T2 κ1 w 6 10 ∧ (κ1 w).2.2.1 = 0 ∧ WT B0 D cs T κ1 H ∧ Fr B0 [10, 11] κ H0 H ∧ Gr H0 H 8 714 ∧ (r = .null ∨ ∃ q, r = .ref q ∧ T2 κ1 q 7 15))) := by
  refine KC.of cX5_read 3 (some (.object "OneBeat$Setup")) (by decide) rfl (Nat.le_of_ble_eq_true rfl) ?_
  intro p e s m below meth c ls hx hb hr hml hown hts hlocks hin hN hE hH0 hl
  have hown : s.vm.findClass RX5 = some m.cls := hown
  have hl : lv_has ls 3 [(0, .ref w), (1, .int (nI n))] := hl
  have hL : OkL B0 [] := OkL.nil
  have hF : Fr B0 [10, 11] κ H0 H0 := Fr.rf
  refine lv_aload_n hx hb dX5_read_0 rfl (lv_at hl 0 rfl) ?_
  refine lv_iconst (v := 0) hx hb dX5_read_1 (by decide) ?_
  refine lv_iload_n hx hb dX5_read_2 rfl (lv_at hl 1 rfl) ?_
  refine lv_aload_n hx hb dX5_read_3 rfl (lv_at hl 0 rfl) ?_
  obtain ⟨hb2022, e2022, hat2022, hk2022⟩ := hT.o6 hw.1
  obtain ⟨f2022_0, f2022_2, f2022_3, f2022_4, f2022_5, f2022_6, f2022_7, f2022_8, f2022_9, f2022_10, f2022_11, f2022_12, f2022_13, rfl, c2022_1, c2022_2, c2022_3, c2022_5, c2022_10, t2022_0, t2022_9, c2022_11, c2022_p2⟩ := hk2022
  have hP : va_P D vwCl [(w, .inr (5, [.ref f2022_0, .int (nI ((κ w).2.2.1)), .int (nI f2022_2), .int (nI f2022_3), .int f2022_4, .int (nI f2022_5), .int f2022_6, .int f2022_7, .int f2022_8, .ref f2022_9, .int (nI f2022_10), f2022_11, .int f2022_12, .int f2022_13]))] _ := va_P.cons hat2022 va_P.nil
  refine va_get (D := D) (ci := 5) (v := .ref f2022_0) (C := RX5) (T := TX5) (N := 14) hx hb hts iX5_read_5 hown hN.1 hP 0 rfl rfl 0 (by decide) (hts _ mX5_read_1) (fun _ h9 => h9) rfl dX5_read_4 ?_
  obtain ⟨hb2023, e2023, hat2023, hk2023⟩ := hT.o16 t2022_0.1
  obtain ⟨g2023, rfl⟩ := hk2023
  have hP : va_P D vwCl [(f2022_0, .inl (cs 1, 600, .inl g2023)), (w, .inr (5, [.ref f2022_0, .int (nI ((κ w).2.2.1)), .int (nI f2022_2), .int (nI f2022_3), .int f2022_4, .int (nI f2022_5), .int f2022_6, .int f2022_7, .int f2022_8, .ref f2022_9, .int (nI f2022_10), f2022_11, .int f2022_12, .int f2022_13]))] _ := va_P.cons hat2023 hP
  refine va_alen (v := 600) hx hb hN.1 hP 0 1 rfl rfl rfl dX5_read_7 ?_
  refine va_mmin hx hb (hml.trans hl.1.symm) hown (hts _ mX5_read_2) (hts _ mX5_read_3) (hts _ mX5_read_4) (hts _ mX5_read_5) (Nat.le_of_ble_eq_true rfl) (Nat.le_of_ble_eq_true rfl) (Nat.zero_le _) (Nat.zero_le _) dX5_read_8 ?_
  obtain ⟨m2024, hm2024, em2024⟩ := nI_min (a := n) (b := 600) (by omega) (by omega)
  refine tp_i (nI m2024) em2024 ?_
  refine va_mmax hx hb (hml.trans hl.1.symm) hown (hts _ mX5_read_6) (hts _ mX5_read_7) (hts _ mX5_read_4) (hts _ mX5_read_8) (Nat.le_of_ble_eq_true rfl) (Nat.le_of_ble_eq_true rfl) (Nat.zero_le _) (Nat.zero_le _) dX5_read_11 ?_
  obtain ⟨m2025, hm2025, em2025⟩ := nI_max (a := 0) (b := m2024) (by omega) (by omega)
  refine tp_i (nI m2025) em2025 ?_
  have hB : Bx B0 D _ [(f2022_0, .inl (cs 1, 600, .inl g2023)), (w, .inr (5, [.ref f2022_0, .int (nI ((κ w).2.2.1)), .int (nI f2022_2), .int (nI f2022_3), .int f2022_4, .int (nI f2022_5), .int f2022_6, .int f2022_7, .int f2022_8, .ref f2022_9, .int (nI f2022_10), f2022_11, .int f2022_12, .int f2022_13]))] [] _ _ := Bx.of (fun a => (κ a).1) hL hP (fa_c hb2023 (fa_c hb2022 fa_n)) (by simp only [List.map_cons, List.map_nil, t2022_0.1, hw.1]; decide)
  refine b_put (D := D) (ci := 5) (v := .int (nI m2025)) (ty := .int) (C := RX5) (T := TX5) (N := 14) hx hb hts iX5_read_5 tyX5 tyX5_ok nmX5 hown hN hB 1 rfl rfl 2 (by decide) (hts _ mX5_read_9) (fun _ h9 => h9) rfl (by decide +kernel) rfl rfl (Nat.le_of_ble_eq_true rfl) (.inl rfl) dX5_read_14 (fun H locs hB => ?_)
  have hB : Bx B0 D _ [(f2022_0, .inl (cs 1, 600, .inl g2023)), (w, .inr (5, [.ref f2022_0, .int (nI ((κ w).2.2.1)), .int (nI m2025), .int (nI f2022_3), .int f2022_4, .int (nI f2022_5), .int f2022_6, .int f2022_7, .int f2022_8, .ref f2022_9, .int (nI f2022_10), f2022_11, .int f2022_12, .int f2022_13]))] [w] _ _ := hB
  refine lv_aload_n hx hb dX5_read_17 rfl (lv_at hl 0 rfl) ?_
  refine lv_iconst (v := 0) hx hb dX5_read_18 (by decide) ?_
  refine tp_i (nI 0) rfl ?_
  refine b_put (D := D) (ci := 5) (v := .int (nI 0)) (ty := .int) (C := RX5) (T := TX5) (N := 14) hx hb hts iX5_read_5 tyX5 tyX5_ok nmX5 hown hN hB 1 rfl rfl 1 (by decide) (hts _ mX5_read_10) (fun _ h9 => h9) rfl (by decide +kernel) rfl rfl (Nat.le_of_ble_eq_true rfl) (.inr ⟨rfl, List.mem_of_getElem? (i := 0) rfl⟩) dX5_read_19 (fun H locs hB => ?_)
  have hB : Bx B0 D _ [(f2022_0, .inl (cs 1, 600, .inl g2023)), (w, .inr (5, [.ref f2022_0, .int (nI 0), .int (nI m2025), .int (nI f2022_3), .int f2022_4, .int (nI f2022_5), .int f2022_6, .int f2022_7, .int f2022_8, .ref f2022_9, .int (nI f2022_10), f2022_11, .int f2022_12, .int f2022_13]))] [w] _ _ := hB
  refine lv_aload_n hx hb dX5_read_22 rfl (lv_at hl 0 rfl) ?_
  refine lv_iconst (v := 0) hx hb dX5_read_23 (by decide) ?_
  refine tp_i (nI 0) rfl ?_
  refine b_put (D := D) (ci := 5) (v := .int (nI 0)) (ty := .int) (C := RX5) (T := TX5) (N := 14) hx hb hts iX5_read_5 tyX5 tyX5_ok nmX5 hown hN hB 1 rfl rfl 3 (by decide) (hts _ mX5_read_11) (fun _ h9 => h9) rfl (by decide +kernel) rfl rfl (Nat.le_of_ble_eq_true rfl) (.inr ⟨rfl, List.mem_of_getElem? (i := 0) rfl⟩) dX5_read_24 (fun H locs hB => ?_)
  have hB : Bx B0 D _ [(f2022_0, .inl (cs 1, 600, .inl g2023)), (w, .inr (5, [.ref f2022_0, .int (nI 0), .int (nI m2025), .int (nI 0), .int f2022_4, .int (nI f2022_5), .int f2022_6, .int f2022_7, .int f2022_8, .ref f2022_9, .int (nI f2022_10), f2022_11, .int f2022_12, .int f2022_13]))] [w] _ _ := hB
  refine lv_aload_n hx hb dX5_read_27 rfl (lv_at hl 0 rfl) ?_
  refine lv_iconst (v := 0) hx hb dX5_read_28 (by decide) ?_
  refine tp_i (nI 0) rfl ?_
  refine b_put (D := D) (ci := 5) (v := .int (nI 0)) (ty := .int) (C := RX5) (T := TX5) (N := 14) hx hb hts iX5_read_5 tyX5 tyX5_ok nmX5 hown hN hB 1 rfl rfl 10 (by decide) (hts _ mX5_read_12) (fun _ h9 => h9) rfl (by decide +kernel) rfl rfl (Nat.le_of_ble_eq_true rfl) (.inr ⟨rfl, List.mem_of_getElem? (i := 0) rfl⟩) dX5_read_29 (fun H locs hB => ?_)
  have hB : Bx B0 D _ [(f2022_0, .inl (cs 1, 600, .inl g2023)), (w, .inr (5, [.ref f2022_0, .int (nI 0), .int (nI m2025), .int (nI 0), .int f2022_4, .int (nI f2022_5), .int f2022_6, .int f2022_7, .int f2022_8, .ref f2022_9, .int (nI 0), f2022_11, .int f2022_12, .int f2022_13]))] [w] _ _ := hB
  refine lv_aload_n hx hb dX5_read_32 rfl (lv_at hl 0 rfl) ?_
  refine lv_iconst (v := (-1)) hx hb dX5_read_33 (by decide) ?_
  refine b_put (D := D) (ci := 5) (v := .int (-1)) (ty := .int) (C := RX5) (T := TX5) (N := 14) hx hb hts iX5_read_5 tyX5 tyX5_ok nmX5 hown hN hB 1 rfl rfl 13 (by decide) (hts _ mX5_read_13) (fun _ h9 => h9) rfl (by decide +kernel) rfl rfl (Nat.le_of_ble_eq_true rfl) (.inr ⟨rfl, List.mem_of_getElem? (i := 0) rfl⟩) dX5_read_34 (fun H locs hB => ?_)
  have hB : Bx B0 D _ [(f2022_0, .inl (cs 1, 600, .inl g2023)), (w, .inr (5, [.ref f2022_0, .int (nI 0), .int (nI m2025), .int (nI 0), .int f2022_4, .int (nI f2022_5), .int f2022_6, .int f2022_7, .int f2022_8, .ref f2022_9, .int (nI 0), f2022_11, .int f2022_12, .int (-1)]))] [w] _ _ := hB
  have hF : Fr B0 [10, 11] κ H0 _ := hF.close hB (fa_c (by simp [hw.2]) fa_n)
  have hT : WT B0 D cs T (kp κ w 0 0) _ := hT.closeK w 0 0 hB (by rw [hw.1]; decide) (by rw [hw.1]; decide) (List.mem_of_getElem? (i := 0) rfl) ⟨⟨1, _, rfl, kp_ok (ok_6 (k := ((κ w).1, (κ w).2.1, _, _)) hw.1 ⟨_, _, _, _, _, _, _, _, _, _, _, _, _, rfl, (by show 0 ≤ 600; omega), (by omega), (by omega), (by omega), (by omega), (t2kp t2022_0), (t2kp t2022_9), (kp_su c2022_11), (Or.inl rfl)⟩)⟩, trivial⟩
  have hL : OkL B0 _ := hB.2.2.2.2.2
  obtain ⟨κ2026, hκ2026⟩ : ∃ κ9 : KM, κ9 = (kp κ w 0 0) := ⟨_, rfl⟩
  have hxf2026 : KF κ κ2026 := by rw [hκ2026]; exact KF.kp
  rw [← hκ2026] at hT
  have hKF : KF κ κ2026 := hxf2026
  have hw := (KF.t2 hxf2026 hw (by decide))
  have hKW : ∀ a, (κ a).1 ≠ 0 → a ≠ w → κ2026 a = κ a := fun a _ h9 => by rw [hκ2026, kp_n h9]
  have hw1 : (κ2026 w).2.2.1 = 0 := by rw [hκ2026, kp_a]
  refine lv_aload_n hx hb dX5_read_37 rfl (lv_at hl 0 rfl) ?_
  refine cv_v (As := []) (rest := []) (b := w) ⟨hx, hb, hml, hown, hts⟩ (c_X5_step hT (w := w) hw) (cwV 0 hts gX5_read_X5_step rfl rfl rfl hdX5_step_v ⟨Nat.le_of_ble_eq_true rfl, Nat.le_of_ble_eq_true rfl⟩) hN hE hL (rcv6 hN hT hw.1) rfl rfl hl.1 (Nat.le_of_ble_eq_true rfl) dX5_read_38 (Nat.zero_le _) (Nat.zero_le _) (fun H1 locs hL hqr2027 => ?_)
  obtain ⟨hT1, hF1, hqr2027⟩ := hqr2027
  have hF := hF.tr ((hF1.kf hKF).mono (by simp))
  have hT := hT1
  have f2028 := hqr2027
  refine lv_aload_n hx hb dX5_read_41 rfl (lv_at hl 0 rfl) ?_
  refine va_ldcS hx hb hown (hN.s 1 rfl) dX5_read_42 ?_
  refine cv_i (As := [.ref (cs 101)]) (rest := []) (b := w) ⟨hx, hb, hml, hown, hts⟩ (c_X5_takeWord hT (w := w) hw (i := 1) (by decide)) (cwV 1 hts gX5_read_X5_takeWord rfl rfl rfl hdX5_takeWord_v ⟨Nat.le_of_ble_eq_true rfl, Nat.le_of_ble_eq_true rfl⟩) hN hE hL (rcv6 hN hT hw.1) rfl rfl hl.1 (Nat.le_of_ble_eq_true rfl) dX5_read_44 (Nat.zero_le _) (Nat.zero_le _) (fun r2029 H1 locs hL hqr2029 => ?_)
  obtain ⟨hT1, hF1, hqr2029⟩ := hqr2029
  have hF := hF.tr ((hF1.kf hKF).mono (by simp))
  have hT := hT1
  rcases hqr2029 with rfl | rfl
  · refine lv_if_eq (tgt := 60) hx hb dX5_read_47 (by decide) (fun _ => ?_) (fun c9 => absurd (by decide) c9)
    refine lv_null hx hb dX5_read_60 ?_
    refine W.know (fun hg => ?_)
    rw [hH0] at hg
    exact en_n hx hb hr hlocks (by first | exact Or.inl ⟨_, rfl⟩ | exact Or.inr ⟨_, rfl⟩) hL (Nat.zero_le _) (Nat.zero_le _) (Or.inl rfl) dX5_read_61 (⟨κ2026, (fun a h1 h2 _ => hKW a h1 h2), (fun a h1 => (hKF a h1).1), hw, hw1, hT, hF, hg.mono (by omega) (by omega), Or.inl rfl⟩)
  · refine lv_if_eq (tgt := 60) hx hb dX5_read_47 (by decide) (fun c9 => absurd c9 (by decide)) (fun _ => ?_)
    refine lv_aload_n hx hb dX5_read_50 rfl (lv_at hl 0 rfl) ?_
    refine lv_iconst (v := 1) hx hb dX5_read_51 (by decide) ?_
    refine lv_bipush (v := 8) hx hb dX5_read_52 (by decide) ?_
    refine cv_i (As := [.int 1, .int 8]) (rest := []) (b := w) ⟨hx, hb, hml, hown, hts⟩ (c_X5_takeNumber hT (w := w) hw (x := 1) (y := 8)) (cwV 2 hts gX5_read_X5_takeNumber rfl rfl rfl hdX5_takeNumber_v ⟨Nat.le_of_ble_eq_true rfl, Nat.le_of_ble_eq_true rfl⟩) hN hE hL (rcv6 hN hT hw.1) rfl rfl hl.1 (Nat.le_of_ble_eq_true rfl) dX5_read_54 (Nat.zero_le _) (Nat.zero_le _) (fun r2030 H1 locs hL hqr2030 => ?_)
    obtain ⟨hT1, hF1, hqr2030⟩ := hqr2030
    have hF := hF.tr ((hF1.kf hKF).mono (by simp))
    have hT := hT1
    rcases hqr2030 with rfl | ⟨rfl, v2031, l2032, g2033, f2034⟩
    · refine lv_if_ne (tgt := 62) hx hb dX5_read_57 (by decide) (fun c9 => absurd (by decide) c9) (fun _ => ?_)
      refine lv_null hx hb dX5_read_60 ?_
      refine W.know (fun hg => ?_)
      rw [hH0] at hg
      exact en_n hx hb hr hlocks (by first | exact Or.inl ⟨_, rfl⟩ | exact Or.inr ⟨_, rfl⟩) hL (Nat.zero_le _) (Nat.zero_le _) (Or.inl rfl) dX5_read_61 (⟨κ2026, (fun a h1 h2 _ => hKW a h1 h2), (fun a h1 => (hKF a h1).1), hw, hw1, hT, hF, hg.mono (by omega) (by omega), Or.inl rfl⟩)
    · obtain ⟨n2035, hn2035a, hn2035b, rfl⟩ := rng (x := v2031) (lo := 1) (hi := 8) (by decide) (by decide) l2032 g2033
      refine lv_if_ne (tgt := 62) hx hb dX5_read_57 (by decide) (fun _ => ?_) (fun c9 => absurd c9 (by decide))
      refine lv_aload_n hx hb dX5_read_62 rfl (lv_at hl 0 rfl) ?_
      have hb0 : B0 ≤ _ := hT.b0 hw (by decide)
      have hP : va_P D vwCl [] _ := hT.nil
      have hB : Bx B0 D _ [] [] _ _ := Bx.of (fun a => (κ2026 a).1) hL hP fa_n (by simp only [List.map_cons, List.map_nil, ]; decide)
      refine nw_o (ci := 6) (fs := [.int 0, .int 0, .int 0, .null, .null, .null, .null, .null]) (C := RX6) (T := TX6) (N := 8) hx hb hts iX5_read_6 tyX6 tyX6_ok hown (hts _ mX5_read_14) (hts _ mX5_read_15) (hts _ mX5_read_16) hN rfl dfl6 (show 0 + 1 ≤ 11 by omega) (show 0 + 8 ≤ 1332 by omega) dX5_read_63 (fun q2036 H heq2036 hzq2036 hoq2036 hatq2036 => ?_)
      have hgeq2036 : _ ≤ q2036 := Nat.le_trans hB.2.2.1 (Nat.le_of_eq heq2036.symm)
      have hbq2036 : B0 ≤ q2036 := Nat.le_trans hb0 hgeq2036
      have hfq2036 : (κ2026 q2036).1 = 0 := hT.fresh hgeq2036
      have hB := hB.nw heq2036 hzq2036 hoq2036 hatq2036 hb0
      have hB : Bx B0 D _ [(q2036, .inr (6, [.int 0, .int 0, .int 0, .null, .null, .null, .null, .null]))] [] _ _ := hB
      have hT0 := hT
      refine lv_dup hx hb dX5_read_66 rfl ?_
      refine lv_aload_n hx hb dX5_read_67 rfl (lv_at hl 0 rfl) ?_
      obtain ⟨hb2037, e2037, hat2037, hk2037⟩ := hT.o6 hw.1
      obtain ⟨f2037_0, f2037_2, f2037_3, f2037_4, f2037_5, f2037_6, f2037_7, f2037_8, f2037_9, f2037_10, f2037_11, f2037_12, f2037_13, rfl, c2037_1, c2037_2, c2037_3, c2037_5, c2037_10, t2037_0, t2037_9, c2037_11, c2037_p2⟩ := hk2037
      obtain rfl : f2037_7 = nI n2035 := Value.int.inj (f2034.eq hat2037 rfl (by decide) rfl)
      have hB : Bx B0 D _ [(q2036, .inr (6, [.int 0, .int 0, .int 0, .null, .null, .null, .null, .null])), (w, .inr (5, [.ref f2037_0, .int (nI ((κ2026 w).2.2.1)), .int (nI f2037_2), .int (nI f2037_3), .int f2037_4, .int (nI f2037_5), .int f2037_6, .int (nI n2035), .int f2037_8, .ref f2037_9, .int (nI f2037_10), f2037_11, .int f2037_12, .int f2037_13]))] [] _ _ := hB.more hat2037 hb2037 (fa_c (nw_ne hat2037 hgeq2036) fa_n) fa_n
      refine va_get (D := D) (ci := 5) (v := .int (nI n2035)) (C := RX5) (T := TX5) (N := 14) hx hb hts iX5_read_5 hown hN.1 hB.1 1 rfl rfl 7 (by decide) (hts _ mX5_read_17) (fun _ h9 => h9) rfl dX5_read_68 ?_
      have hwO := hw
      have hKFO := hKF
      have hT : WT B0 D cs T κ2026 _ := hT.close hB trivial
      have hF : Fr B0 [10, 11] κ H0 _ := hF.closeN hB fa_n
      have hL : OkL B0 _ := hB.2.2.2.2.2
      have hP : va_P D vwCl [(q2036, .inr (6, [.int 0, .int 0, .int 0, .null, .null, .null, .null, .null])), (w, .inr (5, [.ref f2037_0, .int (nI ((κ2026 w).2.2.1)), .int (nI f2037_2), .int (nI f2037_3), .int f2037_4, .int (nI f2037_5), .int f2037_6, .int (nI n2035), .int f2037_8, .ref f2037_9, .int (nI f2037_10), f2037_11, .int f2037_12, .int f2037_13]))] _ := hB.1
      refine ci_v (As := [.int (nI n2035)]) (rest := [.ref q2036, .ref w]) (b := q2036) ⟨hx, hb, hml, hown, hts⟩ (c_X6_init hT (w := q2036) hfq2036 hbq2036 (hP 0 _ rfl) (n := n2035) (by first | omega | decide | assumption)) (cwI 1 hts gX5_read_X6_init rfl rfl rfl (hts _ mX5_read_16) (hts _ mX5_read_95) (hts _ mX5_read_96) rfl hdX6_init_o ⟨Nat.le_of_ble_eq_true rfl, Nat.le_of_ble_eq_true rfl⟩) hN hE hL rfl rfl hl.1 (Nat.le_of_ble_eq_true rfl) dX5_read_71 (show 1 + 4 ≤ 11 by omega) (show (0 + 8) + 88 ≤ 1332 by omega) (fun H1 locs hL hqr2038 => ?_)
      obtain ⟨κr2038, hxr2038, hT1, hF1, hqr2038⟩ := hqr2038
      have hF := hF.tr ((hF1.kf hKF).mono (by simp))
      have hT := hT1
      have hKF := hKF.tr hxr2038.f
      have hw := (hxr2038.f.t2 hw (by decide))
      obtain ⟨hq2036, hqr2038⟩ := hqr2038
      have ekq2036 := hqr2038
      have ew9 : κr2038 w = _ := hxr2038 w (by rw [hwO.1]; decide)
      have hKW : ∀ a, (κ a).1 ≠ 0 → a ≠ w → κr2038 a = κ a := fun a h1 h2 => (hxr2038 a (by rw [hKW a h1 h2]; exact h1)).trans (hKW a h1 h2)
      have hw1 : (κr2038 w).2.2.1 = 0 := by rw [ew9]; exact hw1
      have hsf : (κ q2036).1 = 0 := by have h9 := hfq2036; by_cases h8 : (κ q2036).1 = 0; exact h8; rw [(hKFO _ h8).1] at h9; exact h9
      have hq0 : ¬ q2036 = 0 := by have h9 := hT0.lt hwO (by decide); omega
      have hqw : q2036 ≠ w := ne_c hq2036.1 hw.1 (by decide)
      obtain ⟨hb2039, e2039, hat2039, hk2039⟩ := hT.o6 hw.1
      obtain ⟨f2039_0, f2039_2, f2039_3, f2039_4, f2039_5, f2039_6, f2039_7, f2039_8, f2039_9, f2039_10, f2039_11, f2039_12, f2039_13, rfl, c2039_1, c2039_2, c2039_3, c2039_5, c2039_10, t2039_0, t2039_9, c2039_11, c2039_p2⟩ := hk2039
      have hP : va_P D vwCl [(w, .inr (5, [.ref f2039_0, .int (nI ((κr2038 w).2.2.1)), .int (nI f2039_2), .int (nI f2039_3), .int f2039_4, .int (nI f2039_5), .int f2039_6, .int f2039_7, .int f2039_8, .ref f2039_9, .int (nI f2039_10), f2039_11, .int f2039_12, .int f2039_13]))] _ := va_P.cons hat2039 va_P.nil
      have hB : Bx B0 D _ [(w, .inr (5, [.ref f2039_0, .int (nI ((κr2038 w).2.2.1)), .int (nI f2039_2), .int (nI f2039_3), .int f2039_4, .int (nI f2039_5), .int f2039_6, .int f2039_7, .int f2039_8, .ref f2039_9, .int (nI f2039_10), f2039_11, .int f2039_12, .int f2039_13]))] [] _ _ := Bx.of (fun a => (κr2038 a).1) hL hP (fa_c hb2039 fa_n) (by simp only [List.map_cons, List.map_nil, hw.1]; decide)
      refine b_put (D := D) (ci := 5) (v := .ref q2036) (ty := .object "OneBeat$Setup") (C := RX5) (T := TX5) (N := 14) hx hb hts iX5_read_5 tyX5 tyX5_ok nmX5 hown hN hB 0 rfl rfl 11 (by decide) (hts _ mX5_read_18) (fun _ h9 => h9) rfl (by decide +kernel) rfl rfl (Nat.le_of_ble_eq_true rfl) (.inl rfl) dX5_read_74 (fun H locs hB => ?_)
      have hB : Bx B0 D _ [(w, .inr (5, [.ref f2039_0, .int (nI ((κr2038 w).2.2.1)), .int (nI f2039_2), .int (nI f2039_3), .int f2039_4, .int (nI f2039_5), .int f2039_6, .int f2039_7, .int f2039_8, .ref f2039_9, .int (nI f2039_10), .ref q2036, .int f2039_12, .int f2039_13]))] [w] _ _ := hB
      have hqO := hq2036
      have hF : Fr B0 [10, 11] κ H0 _ := hF.closeN hB (fa_c (fun h9 => by rw [← (hKF _ h9).2, hw.2]; simp) fa_n)
      have hT : WT B0 D cs T (kp κr2038 w (κr2038 w).2.2.1 q2036) _ := hT.closeK w (κr2038 w).2.2.1 q2036 hB (by rw [hw.1]; decide) (by rw [hw.1]; decide) (List.mem_of_getElem? (i := 0) rfl) ⟨⟨0, _, rfl, kp_ok (ok_6 (k := ((κr2038 w).1, (κr2038 w).2.1, _, _)) hw.1 ⟨_, _, _, _, _, _, _, _, _, _, _, _, _, rfl, (by show (κr2038 w).2.2.1 ≤ 600; omega), (by omega), (by omega), (by omega), (by omega), (t2kp t2039_0), (t2kp t2039_9), (kp_su (Or.inr ⟨_, rfl, hq2036.1⟩)), (Or.inr rfl)⟩)⟩, trivial⟩
      have hL : OkL B0 _ := hB.2.2.2.2.2
      obtain ⟨κ2040, hκ2040⟩ : ∃ κ9 : KM, κ9 = (kp κr2038 w (κr2038 w).2.2.1 q2036) := ⟨_, rfl⟩
      have hxf2040 : KF κr2038 κ2040 := by rw [hκ2040]; exact KF.kp
      rw [← hκ2040] at hT
      have hKF := hKF.tr hxf2040
      have hw := (KF.t2 hxf2040 hw (by decide))
      have hKW : ∀ a, (κ a).1 ≠ 0 → a ≠ w → κ2040 a = κ a := fun a h1 h9 => by rw [hκ2040, kp_n h9]; exact hKW a h1 h9
      have hw1 : (κ2040 w).2.2.1 = 0 := by rw [hκ2040, kp_a]; exact hw1
      have ewq : (κ2040 w).2.2.2 = q2036 := by rw [hκ2040, kp_a]
      have hsf : (κ (κ2040 w).2.2.2).1 = 0 := by rw [ewq]; exact hsf
      have hs0 : ¬ (κ2040 w).2.2.2 = 0 := by rw [ewq]; exact hq0
      have hsu : T2 κ2040 (κ2040 w).2.2.2 7 11 := by rw [ewq]; exact hxf2040.t2 hqO (by decide)
      have hp1 : (κ2040 (κ2040 w).2.2.2).2.2.1 ≠ 1 := by rw [ewq, hκ2040, kp_n hqw, ekq2036]; decide
      refine lv_aload_n hx hb dX5_read_77 rfl (lv_at hl 0 rfl) ?_
      refine lv_bipush (v := 59) hx hb dX5_read_78 (by decide) ?_
      refine cv_i (As := [.int 59]) (rest := []) (b := w) ⟨hx, hb, hml, hown, hts⟩ (c_X5_takeMark hT (w := w) hw (x := 59)) (cwV 1 hts gX5_read_X5_takeMark rfl rfl rfl hdX5_takeMark_v ⟨Nat.le_of_ble_eq_true rfl, Nat.le_of_ble_eq_true rfl⟩) hN hE hL (rcv6 hN hT hw.1) rfl rfl hl.1 (Nat.le_of_ble_eq_true rfl) dX5_read_80 (show 5 + 0 ≤ 11 by omega) (show ((0 + 8) + 88) + 0 ≤ 1332 by omega) (fun r2041 H1 locs hL hqr2041 => ?_)
      obtain ⟨hT1, hF1, hqr2041⟩ := hqr2041
      have hF := hF.tr ((hF1.kf hKF).mono (by simp))
      have hT := hT1
      rcases hqr2041 with rfl | rfl
      · refine lv_if_ne (tgt := 88) hx hb dX5_read_83 (by decide) (fun c9 => absurd (by decide) c9) (fun _ => ?_)
        refine lv_null hx hb dX5_read_86 ?_
        refine W.know (fun hg => ?_)
        rw [hH0] at hg
        exact en_n hx hb hr hlocks (by first | exact Or.inl ⟨_, rfl⟩ | exact Or.inr ⟨_, rfl⟩) hL (show 5 ≤ 11 by omega) (show ((0 + 8) + 88) ≤ 1332 by omega) (Or.inl rfl) dX5_read_87 (⟨κ2040, (fun a h1 h2 _ => hKW a h1 h2), (fun a h1 => (hKF a h1).1), hw, hw1, hT, hF, hg.mono (by omega) (by omega), Or.inl rfl⟩)
      · refine lv_if_ne (tgt := 88) hx hb dX5_read_83 (by decide) (fun _ => ?_) (fun c9 => absurd c9 (by decide))
        refine lv_iconst (v := 0) hx hb dX5_read_88 (by decide) ?_
        refine lv_istore_n (lv' := [(2, .int 0), (0, .ref w), (1, .int (nI n))]) hx hb dX5_read_89 rfl hl (by decide) rfl (fun ls hl => ?_)
        refine W.know (fun hg => ?_)
        rw [hH0] at hg
        have hgg : GG9 κ2040 w H0 _ := Or.inl ⟨hp1, hg.mono (by omega) (by omega)⟩
        refine W.tight (k := 8) (n := 714) (by rw [hH0]; exact hgg.all) ?_
        refine lp_m (α := Nat × KM) (nL := 3) (fun a9 => 600 - a9.1) (fun a9 H9 l9 => (a9.1 ≤ 600) ∧ (∀ a, (κ a).1 ≠ 0 → a ≠ w → a9.2 a = κ a) ∧ (KF κ a9.2) ∧ (T2 a9.2 w 6 10) ∧ ((a9.2 w).2.2.1 = 0) ∧ ((κ (a9.2 w).2.2.2).1 = 0) ∧ (¬ (a9.2 w).2.2.2 = 0) ∧ (T2 a9.2 (a9.2 w).2.2.2 7 11) ∧ (GG9 a9.2 w H0 H9) ∧ (WT B0 D cs T a9.2 H9) ∧ (Fr B0 [10, 11] κ H0 H9) ∧ (OkL B0 l9)) (fun a9 => [(2, .int (nI a9.1)), (0, .ref w)]) ?_ (0, κ2040) _ _ _ ⟨(by show (0) ≤ 600; omega), hKW, hKF, hw, hw1, hsf, hs0, hsu, hgg, hT, hF, hL⟩ (lv_sub hl [0, 1] rfl)
        rintro ⟨k, κ9⟩ H locs ls ih2042 ⟨hk, hKW, hKF, hw, hw1, hsf, hs0, hsu, hgg, hT, hF, hL⟩ hl
        have hl : lv_has ls 3 [(2, .int (nI k)), (0, .ref w)] := hl
        have hk : k ≤ 600 := hk
        have hKW : ∀ a, (κ a).1 ≠ 0 → a ≠ w → κ9 a = κ a := hKW
        have hKF : KF κ κ9 := hKF
        have hw : T2 κ9 w 6 10 := hw
        have hw1 : (κ9 w).2.2.1 = 0 := hw1
        have hsf : (κ (κ9 w).2.2.2).1 = 0 := hsf
        have hs0 : ¬ (κ9 w).2.2.2 = 0 := hs0
        have hsu : T2 κ9 (κ9 w).2.2.2 7 11 := hsu
        have hgg : GG9 κ9 w H0 H := hgg
        have hT : WT B0 D cs T κ9 _ := hT
        refine lv_iload_n hx hb dX5_read_90 rfl (lv_at hl 0 rfl) ?_
        refine lv_sipush (v := 600) hx hb dX5_read_91 (by decide) ?_
        refine lv_icmp_ge (tgt := 128) hx hb dX5_read_94 (by decide) (fun c2043 => ?_) (fun c2043 => ?_)
        · have c2043 : 600 ≤ k := (nI_leI (a := 600) (b := k) (by omega) (by omega)).mp c2043
          refine lv_aload_n hx hb dX5_read_128 rfl (lv_at hl 1 rfl) ?_
          obtain ⟨hb2044, e2044, hat2044, hk2044⟩ := hT.o6 hw.1
          obtain ⟨f2044_0, f2044_2, f2044_3, f2044_4, f2044_5, f2044_6, f2044_7, f2044_8, f2044_9, f2044_10, f2044_11, f2044_12, f2044_13, rfl, c2044_1, c2044_2, c2044_3, c2044_5, c2044_10, t2044_0, t2044_9, c2044_11, c2044_p2⟩ := hk2044
          obtain rfl : f2044_11 = .ref (κ9 w).2.2.2 := c2044_p2.resolve_left hs0
          have hP : va_P D vwCl [(w, .inr (5, [.ref f2044_0, .int (nI ((κ9 w).2.2.1)), .int (nI f2044_2), .int (nI f2044_3), .int f2044_4, .int (nI f2044_5), .int f2044_6, .int f2044_7, .int f2044_8, .ref f2044_9, .int (nI f2044_10), .ref (κ9 w).2.2.2, .int f2044_12, .int f2044_13]))] _ := va_P.cons hat2044 va_P.nil
          refine va_get (D := D) (ci := 5) (v := .ref (κ9 w).2.2.2) (C := RX5) (T := TX5) (N := 14) hx hb hts iX5_read_5 hown hN.1 hP 0 rfl rfl 11 (by decide) (hts _ mX5_read_18) (fun _ h9 => h9) rfl dX5_read_129 ?_
          refine cv_v (As := []) (rest := []) (b := (κ9 w).2.2.2) ⟨hx, hb, hml, hown, hts⟩ (KC.grv (c_X6_fillIn hT (w := (κ9 w).2.2.2) hsu)) (cwV 0 hts gX5_read_X6_fillIn rfl rfl rfl hdX6_fillIn_v ⟨Nat.le_of_ble_eq_true rfl, Nat.le_of_ble_eq_true rfl⟩) hN hE hL (rcv7 hN hT hsu.1) rfl rfl hl.1 (Nat.le_of_ble_eq_true rfl) dX5_read_132 (show 8 + 0 ≤ 11 by omega) (show 714 + 0 ≤ 1332 by omega) (fun H1 locs hL hqr2045 => ?_)
          obtain ⟨hgr2045, hqr2045⟩ := hqr2045
          obtain ⟨hT1, hF1⟩ := hqr2045
          have hP : va_P D vwCl [(w, .inr (5, [.ref f2044_0, .int (nI ((κ9 w).2.2.1)), .int (nI f2044_2), .int (nI f2044_3), .int f2044_4, .int (nI f2044_5), .int f2044_6, .int f2044_7, .int f2044_8, .ref f2044_9, .int (nI f2044_10), .ref (κ9 w).2.2.2, .int f2044_12, .int f2044_13]))] _ := hF1.hP (hP.sub [0] rfl) (fa_c ⟨by rw [hw.1]; decide, by rw [hw.2]; first | decide | (simp; done) | (simp; omega)⟩ fa_n)
          have hF := hF.tr ((hF1.kf hKF).mono (by simp))
          have hT := hT1
          have hgg : GG9 κ9 w H0 _ := hgg.gr hgr2045
          refine lv_aload_n hx hb dX5_read_135 rfl (lv_at hl 1 rfl) ?_
          refine va_get (D := D) (ci := 5) (v := .ref (κ9 w).2.2.2) (C := RX5) (T := TX5) (N := 14) hx hb hts iX5_read_5 hown hN.1 hP 0 rfl rfl 11 (by decide) (hts _ mX5_read_18) (fun _ h9 => h9) rfl dX5_read_136 ?_
          refine W.know (fun hg => ?_)
          rw [hH0] at hg
          exact en_n hx hb hr hlocks (by first | exact Or.inl ⟨_, rfl⟩ | exact Or.inr ⟨_, rfl⟩) hL (show 8 ≤ 11 by omega) (show 714 ≤ 1332 by omega) (Or.inr ⟨_, rfl⟩) dX5_read_139 (⟨ro κ9, (fun a h1 h2 h3 => by rw [ro_n (by rw [hKW a h1 h2]; exact h3)]; exact hKW a h1 h2), (fun a h1 => (hKF a h1).1), (by rw [T2, ro_n (by rw [hw.2]; decide)]; exact hw), (by rw [ro_n (by rw [hw.2]; decide)]; exact hw1), hT.re, hF, hgg.all, Or.inr ⟨_, rfl, ro_t hsu⟩⟩)
        · have c2043 : ¬ 600 ≤ k := fun h9 => c2043 ((nI_leI (a := 600) (b := k) (by omega) (by omega)).mpr h9)
          refine lv_aload_n hx hb dX5_read_97 rfl (lv_at hl 1 rfl) ?_
          obtain ⟨hb2046, e2046, hat2046, hk2046⟩ := hT.o6 hw.1
          obtain ⟨f2046_0, f2046_2, f2046_3, f2046_4, f2046_5, f2046_6, f2046_7, f2046_8, f2046_9, f2046_10, f2046_11, f2046_12, f2046_13, rfl, c2046_1, c2046_2, c2046_3, c2046_5, c2046_10, t2046_0, t2046_9, c2046_11, c2046_p2⟩ := hk2046
          obtain rfl : f2046_11 = .ref (κ9 w).2.2.2 := c2046_p2.resolve_left hs0
          have hP : va_P D vwCl [(w, .inr (5, [.ref f2046_0, .int (nI ((κ9 w).2.2.1)), .int (nI f2046_2), .int (nI f2046_3), .int f2046_4, .int (nI f2046_5), .int f2046_6, .int f2046_7, .int f2046_8, .ref f2046_9, .int (nI f2046_10), .ref (κ9 w).2.2.2, .int f2046_12, .int f2046_13]))] _ := va_P.cons hat2046 va_P.nil
          refine va_get (D := D) (ci := 5) (v := .int f2046_4) (C := RX5) (T := TX5) (N := 14) hx hb hts iX5_read_5 hown hN.1 hP 0 rfl rfl 4 (by decide) (hts _ mX5_read_19) (fun _ h9 => h9) rfl dX5_read_98 ?_
          refine lv_if_eq (tgt := 128) hx hb dX5_read_101 (by decide) (fun c2047 => ?_) (fun c2047 => ?_)
          · refine lv_aload_n hx hb dX5_read_128 rfl (lv_at hl 1 rfl) ?_
            refine va_get (D := D) (ci := 5) (v := .ref (κ9 w).2.2.2) (C := RX5) (T := TX5) (N := 14) hx hb hts iX5_read_5 hown hN.1 hP 0 rfl rfl 11 (by decide) (hts _ mX5_read_18) (fun _ h9 => h9) rfl dX5_read_129 ?_
            refine cv_v (As := []) (rest := []) (b := (κ9 w).2.2.2) ⟨hx, hb, hml, hown, hts⟩ (KC.grv (c_X6_fillIn hT (w := (κ9 w).2.2.2) hsu)) (cwV 0 hts gX5_read_X6_fillIn rfl rfl rfl hdX6_fillIn_v ⟨Nat.le_of_ble_eq_true rfl, Nat.le_of_ble_eq_true rfl⟩) hN hE hL (rcv7 hN hT hsu.1) rfl rfl hl.1 (Nat.le_of_ble_eq_true rfl) dX5_read_132 (show 8 + 0 ≤ 11 by omega) (show 714 + 0 ≤ 1332 by omega) (fun H1 locs hL hqr2048 => ?_)
            obtain ⟨hgr2048, hqr2048⟩ := hqr2048
            obtain ⟨hT1, hF1⟩ := hqr2048
            have hP : va_P D vwCl [(w, .inr (5, [.ref f2046_0, .int (nI ((κ9 w).2.2.1)), .int (nI f2046_2), .int (nI f2046_3), .int f2046_4, .int (nI f2046_5), .int f2046_6, .int f2046_7, .int f2046_8, .ref f2046_9, .int (nI f2046_10), .ref (κ9 w).2.2.2, .int f2046_12, .int f2046_13]))] _ := hF1.hP (hP.sub [0] rfl) (fa_c ⟨by rw [hw.1]; decide, by rw [hw.2]; first | decide | (simp; done) | (simp; omega)⟩ fa_n)
            have hF := hF.tr ((hF1.kf hKF).mono (by simp))
            have hT := hT1
            have hgg : GG9 κ9 w H0 _ := hgg.gr hgr2048
            refine lv_aload_n hx hb dX5_read_135 rfl (lv_at hl 1 rfl) ?_
            refine va_get (D := D) (ci := 5) (v := .ref (κ9 w).2.2.2) (C := RX5) (T := TX5) (N := 14) hx hb hts iX5_read_5 hown hN.1 hP 0 rfl rfl 11 (by decide) (hts _ mX5_read_18) (fun _ h9 => h9) rfl dX5_read_136 ?_
            refine W.know (fun hg => ?_)
            rw [hH0] at hg
            exact en_n hx hb hr hlocks (by first | exact Or.inl ⟨_, rfl⟩ | exact Or.inr ⟨_, rfl⟩) hL (show 8 ≤ 11 by omega) (show 714 ≤ 1332 by omega) (Or.inr ⟨_, rfl⟩) dX5_read_139 (⟨ro κ9, (fun a h1 h2 h3 => by rw [ro_n (by rw [hKW a h1 h2]; exact h3)]; exact hKW a h1 h2), (fun a h1 => (hKF a h1).1), (by rw [T2, ro_n (by rw [hw.2]; decide)]; exact hw), (by rw [ro_n (by rw [hw.2]; decide)]; exact hw1), hT.re, hF, hgg.all, Or.inr ⟨_, rfl, ro_t hsu⟩⟩)
          · refine lv_aload_n hx hb dX5_read_104 rfl (lv_at hl 1 rfl) ?_
            refine cv_i (As := []) (rest := []) (b := w) ⟨hx, hb, hml, hown, hts⟩ (c_X5_readStatement hT (w := w) hw (by first | omega | decide | assumption) (by first | omega | decide | assumption)) (cwV 0 hts gX5_read_X5_readStatement rfl rfl rfl hdX5_readStatement_v ⟨Nat.le_of_ble_eq_true rfl, Nat.le_of_ble_eq_true rfl⟩) hN hE hL (rcv6 hN hT hw.1) rfl rfl hl.1 (Nat.le_of_ble_eq_true rfl) dX5_read_105 (show 8 + 3 ≤ 11 by omega) (show 714 + 618 ≤ 1332 by omega) (fun r2049 H1 locs hL hqr2049 => ?_)
            obtain ⟨κr2049, hxr2049, hT1, hF1, hsr2049, hqr2049⟩ := hqr2049
            have hF := hF.tr ((hF1.kf hKF).mono (by simp))
            have hT := hT1
            have hxfr2049 := KSF hxr2049 hsu hsr2049
            have ew9 : κr2049 w = κ9 w := hxr2049 w (by rw [hw.1]; decide) (ne_c hw.1 hsu.1 (by decide))
            have hKW : ∀ a, (κ a).1 ≠ 0 → a ≠ w → κr2049 a = κ a := fun a h1 h2 => (hxr2049 a (by rw [hKW a h1 h2]; exact h1) (fun e9 => h1 (by rw [e9]; exact hsf))).trans (hKW a h1 h2)
            obtain ⟨hgs, hqr2049⟩ := hqr2049
            have hgg : GG9 κr2049 w H0 _ := hgg.step ew9 hgs
            have hsf : (κ (κr2049 w).2.2.2).1 = 0 := by rw [ew9]; exact hsf
            have hs0 : ¬ (κr2049 w).2.2.2 = 0 := by rw [ew9]; exact hs0
            have hsu : T2 κr2049 (κr2049 w).2.2.2 7 11 := by rw [ew9]; exact hsr2049
            have hw1 : (κr2049 w).2.2.1 = 0 := by rw [ew9]; exact hw1
            have hKF := hKF.tr hxfr2049
            have hw := (KF.t2 hxfr2049 hw (by decide))
            rcases hqr2049 with rfl | rfl
            · refine lv_if_eq (tgt := 120) hx hb dX5_read_108 (by decide) (fun _ => ?_) (fun c9 => absurd (by decide) c9)
              refine lv_null hx hb dX5_read_120 ?_
              refine W.know (fun hg => ?_)
              rw [hH0] at hg
              exact en_n hx hb hr hlocks (by first | exact Or.inl ⟨_, rfl⟩ | exact Or.inr ⟨_, rfl⟩) hL (show 11 ≤ 11 by omega) (show (714 + 618) ≤ 1332 by omega) (Or.inl rfl) dX5_read_121 (⟨κr2049, (fun a h1 h2 _ => hKW a h1 h2), (fun a h1 => (hKF a h1).1), hw, hw1, hT, hF, hgg.all, Or.inl rfl⟩)
            · refine lv_if_eq (tgt := 120) hx hb dX5_read_108 (by decide) (fun c9 => absurd c9 (by decide)) (fun _ => ?_)
              refine lv_aload_n hx hb dX5_read_111 rfl (lv_at hl 1 rfl) ?_
              refine lv_bipush (v := 59) hx hb dX5_read_112 (by decide) ?_
              refine cv_i (As := [.int 59]) (rest := []) (b := w) ⟨hx, hb, hml, hown, hts⟩ (KC.gri (c_X5_takeMark hT (w := w) hw (x := 59))) (cwV 1 hts gX5_read_X5_takeMark rfl rfl rfl hdX5_takeMark_v ⟨Nat.le_of_ble_eq_true rfl, Nat.le_of_ble_eq_true rfl⟩) hN hE hL (rcv6 hN hT hw.1) rfl rfl hl.1 (Nat.le_of_ble_eq_true rfl) dX5_read_114 (show 11 + 0 ≤ 11 by omega) (show (714 + 618) + 0 ≤ 1332 by omega) (fun r2050 H1 locs hL hqr2050 => ?_)
              obtain ⟨hgr2050, hqr2050⟩ := hqr2050
              obtain ⟨hT1, hF1, hqr2050⟩ := hqr2050
              have hF := hF.tr ((hF1.kf hKF).mono (by simp))
              have hT := hT1
              have hgg : GG9 κr2049 w H0 _ := hgg.gr hgr2050
              rcases hqr2050 with rfl | rfl
              · refine lv_if_ne (tgt := 122) hx hb dX5_read_117 (by decide) (fun c9 => absurd (by decide) c9) (fun _ => ?_)
                refine lv_null hx hb dX5_read_120 ?_
                refine W.know (fun hg => ?_)
                rw [hH0] at hg
                exact en_n hx hb hr hlocks (by first | exact Or.inl ⟨_, rfl⟩ | exact Or.inr ⟨_, rfl⟩) hL (show 11 ≤ 11 by omega) (show (714 + 618) ≤ 1332 by omega) (Or.inl rfl) dX5_read_121 (⟨κr2049, (fun a h1 h2 _ => hKW a h1 h2), (fun a h1 => (hKF a h1).1), hw, hw1, hT, hF, hgg.all, Or.inl rfl⟩)
              · refine lv_if_ne (tgt := 122) hx hb dX5_read_117 (by decide) (fun _ => ?_) (fun c9 => absurd c9 (by decide))
                refine lv_iinc (v := (nI (k + 1))) (lv' := [(2, .int (nI (k + 1))), (0, .ref w)]) hx hb dX5_read_122 hl (k := 0) rfl (nI_add _ 1) (by decide) rfl (fun ls hl => ?_)
                refine lv_goto (tgt := 90) hx hb dX5_read_125 (by decide) ?_
                refine W.tight (k := 8) (n := 714) (by rw [hH0]; exact hgg.all) ?_
                exact ih2042 ((k + 1), κr2049) _ _ _ (by show 600 - ((k + 1)) < 600 - k; omega) ⟨(by show ((k + 1)) ≤ 600; omega), hKW, hKF, hw, hw1, hsf, hs0, hsu, hgg, hT, hF, hL⟩ (lv_sub hl [0, 1] rfl)
