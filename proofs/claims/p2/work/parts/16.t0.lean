theorem mJ7_copyOf_59c91_7 : (.arrayClass .int : Cond) ∈ wsJ7_copyOf_59c91 := List.mem_of_getElem? (i := 7) (by decide +kernel)
theorem mJ7_copyOf_59c91_8 : (.methodLink RJ7 304 Lib.Math.min.name : Cond) ∈ wsJ7_copyOf_59c91 := List.mem_of_getElem? (i := 8) (by decide +kernel)
theorem mJ7_copyOf_59c91_9 : (.static Lib.Math.min.name : Cond) ∈ wsJ7_copyOf_59c91 := List.mem_of_getElem? (i := 9) (by decide +kernel)
theorem mJ7_copyOf_59c91_10 : (.initialized "java/lang/Math" : Cond) ∈ wsJ7_copyOf_59c91 := List.mem_of_getElem? (i := 10) (by decide +kernel)
theorem mJ7_copyOf_59c91_11 : (.code Lib.Math.min.name Lib.Math.min.code 2 (some .int) : Cond) ∈ wsJ7_copyOf_59c91 := List.mem_of_getElem? (i := 11) (by decide +kernel)
theorem mJ7_copyOf_59c91_12 : (.methodLink RJ7 150 arraycopyName : Cond) ∈ wsJ7_copyOf_59c91 := List.mem_of_getElem? (i := 12) (by decide +kernel)
theorem mJ7_copyOf_59c91_13 : (.native arraycopyName : Cond) ∈ wsJ7_copyOf_59c91 := List.mem_of_getElem? (i := 13) (by decide +kernel)
theorem mJ7_copyOf_59c91_14 : (.static arraycopyName : Cond) ∈ wsJ7_copyOf_59c91 := List.mem_of_getElem? (i := 14) (by decide +kernel)
theorem mJ7_copyOf_59c91_15 : (.initialized "java/lang/System" : Cond) ∈ wsJ7_copyOf_59c91 := List.mem_of_getElem? (i := 15) (by decide +kernel)
theorem mJ7_copyOf_59c91_1 : (.methodLink RJ7 316 ⟨"[I", "clone", "()Ljava/lang/Object;"⟩ : Cond) ∈ wsJ7_copyOf_59c91 := List.mem_of_getElem? (i := 1) (by decide +kernel)
theorem mJ7_copyOf_59c91_2 : (.sameMethod "[I" "java/lang/Object" "clone" "()Ljava/lang/Object;" : Cond) ∈ wsJ7_copyOf_59c91 := List.mem_of_getElem? (i := 2) (by decide +kernel)
theorem mJ7_copyOf_59c91_3 : (.native ⟨"java/lang/Object", "clone", "()Ljava/lang/Object;"⟩ : Cond) ∈ wsJ7_copyOf_59c91 := List.mem_of_getElem? (i := 3) (by decide +kernel)
theorem mJ7_copyOf_59c91_4 : (.instanceMethod ⟨"java/lang/Object", "clone", "()Ljava/lang/Object;"⟩ : Cond) ∈ wsJ7_copyOf_59c91 := List.mem_of_getElem? (i := 4) (by decide +kernel)
theorem mJ7_copyOf_59c91_5 : (.selects "[I" ⟨"[I", "clone", "()Ljava/lang/Object;"⟩ ⟨"java/lang/Object", "clone", "()Ljava/lang/Object;"⟩ : Cond) ∈ wsJ7_copyOf_59c91 := List.mem_of_getElem? (i := 5) (by decide +kernel)
theorem mJ7_copyOf_59c91_6 : (.classLink RJ7 317 "[I" : Cond) ∈ wsJ7_copyOf_59c91 := List.mem_of_getElem? (i := 6) (by decide +kernel)
set_option maxHeartbeats 4000000 in
set_option maxRecDepth 100000 in
theorem c_J7_copyOf_59c91 {l : Launch} {D : va_G} {cs : Nat → ClassId} {B0 : Nat} {H0 : Heap} {v n : Nat} {g : Nat → Int32} (hvb : B0 ≤ v) (hva : va_at D vwCl (v, .inl (cs 0, 600, .inl g)) H0) (hn : n ≤ 600) : KC l yJ7_copyOf_59c91 wsJ7_copyOf_59c91 1 60 1 600 D cs B0 H0 [.ref v, .int (nI n)] (Qr (fun r H => r = H0.size ∧ H.size = r + 1 ∧ (∀ x, x < r → H[x]? = H0[x]?) ∧ ∃ f, va_at D vwCl (r, .inl (cs 0, n, .inl f)) H)) := by
  refine KC.of cJ7_copyOf_59c91 3 (some (.array .int)) (by decide) rfl (Nat.le_of_ble_eq_true rfl) ?_
  intro p e s m below meth c ls hx hb hr hml hown hts hlocks hin hN hE hH0 hl
  have hown : s.vm.findClass RJ7 = some m.cls := hown
  have hl : lv_has ls 3 [(0, .ref v), (1, .int (nI n))] := hl
  have hL : OkL B0 [] := OkL.nil
  have hP : va_P D vwCl [(v, .inl (cs 0, 600, .inl g))] _ := va_P.cons hva va_P.nil
  have hb0 : B0 ≤ H0.size := Nat.le_trans hvb (Nat.le_of_lt hva.lt)
  refine lv_iload_n hx hb dJ7_copyOf_59c91_0 rfl (lv_at hl 1 rfl) ?_
  refine lv_aload_n hx hb dJ7_copyOf_59c91_1 rfl (lv_at hl 0 rfl) ?_
  refine va_alen (v := 600) hx hb hN.1 hP 0 0 rfl rfl rfl dJ7_copyOf_59c91_2 ?_
  refine lv_icmp_ne (tgt := 14) hx hb dJ7_copyOf_59c91_3 (by decide) (fun c1940 => ?_) (fun c1940 => ?_)
  · have c1940 : ¬ n = 600 := fun h9 => c1940 ((nI_eq (a := n) (b := 600) (by omega) (by omega)).mpr h9)
    refine lv_iload_n hx hb dJ7_copyOf_59c91_14 rfl (lv_at hl 1 rfl) ?_
    have hB : Bx B0 D _ [(v, .inl (cs 0, 600, .inl g))] [] _ _ := Bx.of (fun a => a) hL hP (fa_c hvb fa_n) (by simp)
    refine nw_a (atype := .int) (ty := .int) (N' := n) (a0 := (n, .inl (fun _ => 0))) 0 hN rfl hx hb (hts _ mJ7_copyOf_59c91_7) rfl (fun _ => rfl) (nI_pos (n := n) (by omega)) (nI_clamp (n := n) (by omega)) (show n * _ ≤ _ by simp only [componentBytes]; omega) (show 0 + 1 ≤ 1 by omega) (show 0 + n ≤ 600 by omega) dJ7_copyOf_59c91_15 (fun q1941 H heq1941 hzq1941 hoq1941 hatq1941 => ?_)
    have hB := hB.nwm heq1941 hzq1941 hoq1941 hatq1941 hb0
    have hB : Bx B0 D _ [(v, .inl (cs 0, 600, .inl g)), (q1941, .inl (cs 0, n, .inl (fun _ => 0)))] [q1941] _ _ := hB
    refine lv_astore_n (lv' := [(2, .ref q1941), (0, .ref v), (1, .int (nI n))]) hx hb dJ7_copyOf_59c91_17 rfl hl (by decide) rfl (fun ls hl => ?_)
    refine lv_aload_n hx hb dJ7_copyOf_59c91_18 rfl (lv_at hl 1 rfl) ?_
    refine lv_iconst (v := 0) hx hb dJ7_copyOf_59c91_19 (by decide) ?_
    refine lv_aload_n hx hb dJ7_copyOf_59c91_20 rfl (lv_at hl 0 rfl) ?_
    refine lv_iconst (v := 0) hx hb dJ7_copyOf_59c91_21 (by decide) ?_
    refine lv_aload_n hx hb dJ7_copyOf_59c91_22 rfl (lv_at hl 1 rfl) ?_
    refine va_alen (v := 600) hx hb hN.1 hB.1 0 0 rfl rfl rfl dJ7_copyOf_59c91_23 ?_
    refine lv_iload_n hx hb dJ7_copyOf_59c91_24 rfl (lv_at hl 2 rfl) ?_
    refine va_mmin hx hb (hml.trans hl.1.symm) hown (hts _ mJ7_copyOf_59c91_8) (hts _ mJ7_copyOf_59c91_9) (hts _ mJ7_copyOf_59c91_10) (hts _ mJ7_copyOf_59c91_11) (Nat.le_of_ble_eq_true rfl) (Nat.le_of_ble_eq_true rfl) (show 1 ≤ 1 by omega) (show (0 + n) ≤ 600 by omega) dJ7_copyOf_59c91_25 ?_
    obtain ⟨m1942, hm1942, em1942⟩ := nI_min (a := 600) (b := n) (by omega) (by omega)
    refine tp_i (nI m1942) em1942 ?_
    refine b_cpy hx hb (hml.trans hl.1.symm) hown (hts _ mJ7_copyOf_59c91_12) (hts _ mJ7_copyOf_59c91_13) (hts _ mJ7_copyOf_59c91_14) (hts _ mJ7_copyOf_59c91_15) hN hB 0 1 rfl rfl (nI_pos (n := 0) (by omega)) (nI_pos (n := 0) (by omega)) (nI_pos (n := m1942) (by omega)) (by rw [show (0 : Int32).toNatClampNeg = 0 from nI_clamp (n := 0) (by omega), show ((nI m1942) : Int32).toNatClampNeg = m1942 from nI_clamp (n := m1942) (by omega)]; omega) (by rw [show (0 : Int32).toNatClampNeg = 0 from nI_clamp (n := 0) (by omega), show ((nI m1942) : Int32).toNatClampNeg = m1942 from nI_clamp (n := m1942) (by omega)]; omega) (.inr ⟨rfl, List.mem_of_getElem? (i := 0) rfl⟩) (Nat.le_of_ble_eq_true rfl) (Nat.le_of_ble_eq_true rfl) dJ7_copyOf_59c91_28 (fun H locs hB => ?_)
    generalize va_cpy _ _ _ _ _ = g1943 at hB
    have hB : Bx B0 D _ [(v, .inl (cs 0, 600, .inl g)), (q1941, .inl (cs 0, n, .inl g1943))] [q1941] _ _ := hB
    refine lv_aload_n hx hb dJ7_copyOf_59c91_31 rfl (lv_at hl 0 rfl) ?_
    have hL : OkL B0 _ := hB.2.2.2.2.2
    refine W.know (fun hg => ?_)
    rw [hH0] at hg
    exact en_r hx hb hr hlocks (by first | exact Or.inl ⟨_, rfl⟩ | exact Or.inr ⟨_, rfl⟩) hL (show 1 ≤ 1 by omega) (show (0 + n) ≤ 600 by omega) dJ7_copyOf_59c91_32 (⟨heq1941, (by have h1 := hg.2.1; have h2 := (hB.1 1 _ rfl).lt; have h2 : q1941 < _ := h2; omega), (fun x hx9 => hB.2.2.2.1 x (by omega) (by simp; omega)), _, hB.1 1 _ rfl⟩)
  · have c1940 : n = 600 := (nI_eq (a := n) (b := 600) (by omega) (by omega)).mp c1940
    refine lv_aload_n hx hb dJ7_copyOf_59c91_6 rfl (lv_at hl 0 rfl) ?_
    refine nw_cl hx hb (hml.trans hl.1.symm) hown (hts _ mJ7_copyOf_59c91_1) (hts _ mJ7_copyOf_59c91_2) (hts _ mJ7_copyOf_59c91_3) (hts _ mJ7_copyOf_59c91_4) (hts _ mJ7_copyOf_59c91_5) hN (hP 0 _ rfl) (Nat.le_of_ble_eq_true rfl) (Nat.le_of_ble_eq_true rfl) (show 0 + 1 ≤ 1 by omega) (show 0 + 600 ≤ 600 by omega) dJ7_copyOf_59c91_7 (fun q1944 H heq1944 hzq1944 hoq1944 hatq1944 => ?_)
    refine nw_ca hx hb hown (hts _ mJ7_copyOf_59c91_6) hN hatq1944 dJ7_copyOf_59c91_10 ?_
    refine W.know (fun hg => ?_)
    rw [hH0] at hg
    obtain rfl : n = 600 := c1940
    exact en_r hx hb hr hlocks (by first | exact Or.inl ⟨_, rfl⟩ | exact Or.inr ⟨_, rfl⟩) hL (show 1 ≤ 1 by omega) (show (0 + 600) ≤ 600 by omega) dJ7_copyOf_59c91_13 (⟨heq1944, hzq1944, hoq1944, _, hatq1944⟩)
theorem mX0_init_1 : (.methodLink RX0 1 objectInit : Cond) ∈ wsX0_init := List.mem_of_getElem? (i := 1) (by decide +kernel)
theorem mX0_init_2 : (.instanceMethod objectInit : Cond) ∈ wsX0_init := List.mem_of_getElem? (i := 2) (by decide +kernel)
theorem mX0_init_3 : (.code objectInit ⟨#[0xb1]⟩ 1 none : Cond) ∈ wsX0_init := List.mem_of_getElem? (i := 3) (by decide +kernel)
theorem mX0_init_4 : (.arrayClass .int : Cond) ∈ wsX0_init := List.mem_of_getElem? (i := 4) (by decide +kernel)
theorem mX0_init_5 : (.fieldLink RX0 9 "OneBeat$Formula" "stack" "[I" : Cond) ∈ wsX0_init := List.mem_of_getElem? (i := 5) (by decide +kernel)
theorem iX0_init_0 : ∀ w ∈ wsX00, w ∈ wsX0_init := fun w h => List.mem_of_mem_drop (List.mem_of_mem_take ((show wsX00 = (wsX0_init.drop 25).take 2 by decide +kernel) ▸ h))
theorem hdJ7_copyOf_59c91_o : yJ7_copyOf_59c91.cls ≠ "java/lang/invoke/MethodHandle" ∧ yJ7_copyOf_59c91.cls ≠ "java/lang/invoke/VarHandle" ∧ (parseMethodDescriptor yJ7_copyOf_59c91.desc).map (fun d => d.parameters.length) = some 2 := by decide +kernel
theorem mX0_init_6 : (.fieldLink RX0 19 "OneBeat$Formula" "codes" "[I" : Cond) ∈ wsX0_init := List.mem_of_getElem? (i := 6) (by decide +kernel)
set_option maxHeartbeats 4000000 in
set_option maxRecDepth 100000 in
theorem c_X0_init {l : Launch} {D : va_G} {cs : Nat → ClassId} {B0 T : Nat} {κ : KM} {H0 : Heap} (hT : WT B0 D cs T κ H0) {w : Nat} (hfw : (κ w).1 = 0) (hwb : B0 ≤ w) (hwa : va_at D vwCl (w, .inr (0, [.null, .null])) H0) {v n : Nat} (hv : T2 κ v 17 10) (hn : n ≤ 600) : KC l yX0_init wsX0_init 2 82 2 616 D cs B0 H0 [.ref w, .ref v, .int (nI n)] (Qv (fun H => ∃ κ1, KX κ κ1 ∧ WT B0 D cs T κ1 H ∧ Fr B0 [] κ H0 H ∧ T2 κ1 w 1 15)) := by
  refine KC.of cX0_init 3 none (by decide) rfl (Nat.le_of_ble_eq_true rfl) ?_
  intro p e s m below meth c ls hx hb hr hml hown hts hlocks hin hN hE hH0 hl
  have hown : s.vm.findClass RX0 = some m.cls := hown
  have hl : lv_has ls 3 [(0, .ref w), (1, .ref v), (2, .int (nI n))] := hl
  have hL : OkL B0 [] := OkL.nil
  have hF : Fr B0 [] κ H0 H0 := Fr.rf
  have hP : va_P D vwCl [(w, .inr (0, [.null, .null]))] _ := va_P.cons hwa va_P.nil
  have hb0 : B0 ≤ H0.size := Nat.le_trans hwb (Nat.le_of_lt hwa.lt)
  refine lv_aload_n hx hb dX0_init_0 rfl (lv_at hl 0 rfl) ?_
  refine W.objInit hx hb hown (hts _ mX0_init_1) (hts _ mX0_init_2) (hts _ mX0_init_3) rfl (by rw [hml]; exact hl.1) rfl dX0_init_1 (Nat.le_of_ble_eq_true rfl) (Nat.le_of_ble_eq_true rfl) ?_
  refine W.eq (g2 := F0 m 4 ls []) rfl ?_
  refine lv_aload_n hx hb dX0_init_4 rfl (lv_at hl 0 rfl) ?_
  refine lv_bipush (v := 16) hx hb dX0_init_5 (by decide) ?_
  have hB : Bx B0 D _ [(w, .inr (0, [.null, .null]))] [] _ _ := Bx.of (fun a => (κ a).1) hL hP (fa_c hwb fa_n) (by simp only [List.map_cons, List.map_nil, hfw]; decide)
  refine nw_a (atype := .int) (ty := .int) (N' := 16) (a0 := (16, .inl (fun _ => 0))) 0 hN rfl hx hb (hts _ mX0_init_4) rfl (fun _ => rfl) (nI_pos (n := 16) (by omega)) (nI_clamp (n := 16) (by omega)) (show 16 * _ ≤ _ by simp only [componentBytes]; omega) (show 0 + 1 ≤ 2 by omega) (show 0 + 16 ≤ 616 by omega) dX0_init_7 (fun q1945 H heq1945 hzq1945 hoq1945 hatq1945 => ?_)
  have hgeq1945 : _ ≤ q1945 := Nat.le_trans hB.2.2.1 (Nat.le_of_eq heq1945.symm)
  have hbq1945 : B0 ≤ q1945 := Nat.le_trans hb0 hgeq1945
  have hfq1945 : (κ q1945).1 = 0 := hT.fresh hgeq1945
  have hB := hB.nwm heq1945 hzq1945 hoq1945 hatq1945 hb0
  have hB : Bx B0 D _ [(w, .inr (0, [.null, .null])), (q1945, .inl (cs 0, 16, .inl (fun _ => 0)))] [q1945] _ _ := hB
  refine b_putF (D := D) (ci := 0) (v := .ref q1945) (ty := .array .int) (C := RX0) (T := TX0) (N := 2) hx hb hts iX0_init_0 tyX0 tyX0_ok nmX0 hown hN hB 0 rfl rfl 1 (by decide) (hts _ mX0_init_5) (fun _ h9 => h9) rfl hin rfl (by decide +kernel) rfl rfl (Nat.le_of_ble_eq_true rfl) (.inl rfl) dX0_init_9 (fun H locs hB => ?_)
  have hB : Bx B0 D _ [(w, .inr (0, [.null, .ref q1945])), (q1945, .inl (cs 0, 16, .inl (fun _ => 0)))] [w, q1945] _ _ := hB
  refine lv_aload_n hx hb dX0_init_12 rfl (lv_at hl 0 rfl) ?_
  refine lv_aload_n hx hb dX0_init_13 rfl (lv_at hl 1 rfl) ?_
  refine lv_iload_n hx hb dX0_init_14 rfl (lv_at hl 2 rfl) ?_
  refine lv_if_ge (tgt := 22) hx hb dX0_init_15 (by decide) (fun c1946 => ?_) (fun c1946 => ?_)
  · have c1946 : 0 ≤ n := (nI_leI (a := 0) (b := n) (by omega) (by omega)).mp c1946
    refine lv_iload_n hx hb dX0_init_22 rfl (lv_at hl 2 rfl) ?_
    obtain ⟨hb1947, e1947, hat1947, hk1947⟩ := hT.o17 hv.1
    obtain ⟨g1947, rfl⟩ := hk1947
    have hB : Bx B0 D _ [(w, .inr (0, [.null, .ref q1945])), (q1945, .inl (cs 0, 16, .inl (fun _ => 0))), (v, .inl (cs 0, 600, .inl g1947))] [w, q1945] _ _ := hB.more hat1947 hb1947 (fa_c (ne_c hfw hv.1 (by decide))  (fa_c (nw_ne hat1947 hgeq1945) fa_n)) (fa_c (ne_c hfw hv.1 (by decide))  (fa_c (nw_ne hat1947 hgeq1945) fa_n))
    have hL : OkL B0 _ := hB.2.2.2.2.2
    refine cs_r (As := [.ref v, .int (nI n)]) (rest := [.ref w]) ⟨hx, hb, hml, hown, hts⟩ (c_J7_copyOf_59c91 (v := v) (n := n) hb1947 (hB.1 2 _ rfl) (by omega)) (va_cwS 2 hts gX0_init_J7_copyOf_59c91 rfl rfl rfl hdJ7_copyOf_59c91_o ⟨Nat.le_of_ble_eq_true rfl, Nat.le_of_ble_eq_true rfl⟩) hN hE hL rfl rfl hl.1 (Nat.le_of_ble_eq_true rfl) dX0_init_23 (show 1 + 1 ≤ 2 by omega) (show (0 + 16) + 600 ≤ 616 by omega) (fun q1948 H1 locs hL hqq1948 => ?_)
    obtain ⟨heq1948, hzq1948, hoq1948, gq1948, hatq1948⟩ := hqq1948
    have hB := hB.lc hL
    have hgeq1948 : _ ≤ q1948 := Nat.le_trans hB.2.2.1 (Nat.le_of_eq heq1948.symm)
    have hbq1948 : B0 ≤ q1948 := Nat.le_trans hb0 hgeq1948
    have hfq1948 : (κ q1948).1 = 0 := hT.fresh hgeq1948
    have hB := hB.nwm heq1948 hzq1948 hoq1948 hatq1948 hb0
    have hB : Bx B0 D _ [(w, .inr (0, [.null, .ref q1945])), (q1945, .inl (cs 0, 16, .inl (fun _ => 0))), (v, .inl (cs 0, 600, .inl g1947)), (q1948, .inl (cs 0, n, .inl gq1948))] [q1948, w, q1945] _ _ := hB
    refine b_putF (D := D) (ci := 0) (v := .ref q1948) (ty := .array .int) (C := RX0) (T := TX0) (N := 2) hx hb hts iX0_init_0 tyX0 tyX0_ok nmX0 hown hN hB 0 rfl rfl 0 (by decide) (hts _ mX0_init_6) (fun _ h9 => h9) rfl hin rfl (by decide +kernel) rfl rfl (Nat.le_of_ble_eq_true rfl) (.inr ⟨rfl, List.mem_of_getElem? (i := 1) rfl⟩) dX0_init_26 (fun H locs hB => ?_)
    have hB : Bx B0 D _ [(w, .inr (0, [.ref q1948, .ref q1945])), (q1945, .inl (cs 0, 16, .inl (fun _ => 0))), (v, .inl (cs 0, 600, .inl g1947)), (q1948, .inl (cs 0, n, .inl gq1948))] [q1948, w, q1945] _ _ := hB
    obtain ⟨κ1949, hκ1949⟩ : ∃ κ9 : KM, κ9 = (ku (ku (ku κ w (1, 15, 0, 0)) q1945 (22, 16, 0, 0)) q1948 (21, 15, 0, 0)) := ⟨_, rfl⟩
    have hx1949 : KX κ κ1949 := by rw [hκ1949]; exact (((KX.ku hfw).tr (KX.ku (by rw [ku_n (fun e9 => absurd (hB.2.1.1 1 0 _ _ rfl rfl e9) (by decide))]; exact hfq1945))).tr (KX.ku (by rw [ku_n (fun e9 => absurd (hB.2.1.1 3 1 _ _ rfl rfl e9) (by decide)), ku_n (fun e9 => absurd (hB.2.1.1 3 0 _ _ rfl rfl e9) (by decide))]; exact hfq1948)))
    have ew : κ1949 w = (1, 15, 0, 0) := by rw [hκ1949, ku_n (fun e9 => absurd (hB.2.1.1 0 3 _ _ rfl rfl e9) (by decide)), ku_n (fun e9 => absurd (hB.2.1.1 0 1 _ _ rfl rfl e9) (by decide)), ku_a]
    have hw : T2 κ1949 w 1 15 := ⟨by rw [ew], by rw [ew]⟩
    have eq1945 : κ1949 q1945 = (22, 16, 0, 0) := by rw [hκ1949, ku_n (fun e9 => absurd (hB.2.1.1 1 3 _ _ rfl rfl e9) (by decide)), ku_a]
    have hq1945 : T2 κ1949 q1945 22 16 := ⟨by rw [eq1945], by rw [eq1945]⟩
    have eq1948 : κ1949 q1948 = (21, 15, 0, 0) := by rw [hκ1949, ku_a]
    have hq1948 : T2 κ1949 q1948 21 15 := ⟨by rw [eq1948], by rw [eq1948]⟩
    have hx9 := hx1949
    have hT : WT B0 D cs T κ1949 _ := hT.closeN hB hx1949 (fun a9 h9 => by rw [hκ1949, ku_n (fun e9 => h9 (by rw [e9]; exact List.mem_of_getElem? (i := 0) rfl)), ku_n (fun e9 => h9 (by rw [e9]; exact List.mem_of_getElem? (i := 2) rfl)), ku_n (fun e9 => h9 (by rw [e9]; exact List.mem_of_getElem? (i := 1) rfl))]) ⟨⟨3, _, rfl, ok_21 hq1948.1 ⟨_, _, rfl, (by omega)⟩⟩, ⟨⟨0, _, rfl, ok_1 hw.1 ⟨_, _, rfl, hq1948, hq1945⟩⟩, ⟨⟨1, _, rfl, ok_22 hq1945.1 ⟨_, rfl⟩⟩, trivial⟩⟩⟩
    have hF : Fr B0 [] κ H0 _ := hF.closeN hB (fa_c (fun h9 => absurd hfq1948 h9) (fa_c (fun h9 => absurd hfw h9) (fa_c (fun h9 => absurd hfq1945 h9) fa_n)))
    have hL : OkL B0 _ := hB.2.2.2.2.2
    have hKF : KF κ κ1949 := hx1949.f
    have hKX : KX κ κ1949 := hx1949
    have hv := (hx1949.f.t2 hv (by decide))
    have hP : va_P D vwCl [(w, .inr (0, [.ref q1948, .ref q1945])), (q1945, .inl (cs 0, 16, .inl (fun _ => 0))), (v, .inl (cs 0, 600, .inl g1947)), (q1948, .inl (cs 0, n, .inl gq1948))] _ := hB.1
    exact en_v hx hb hr hlocks hL (show 2 ≤ 2 by omega) (show ((0 + 16) + 600) ≤ 616 by omega) dX0_init_29 (⟨_, hKX, hT, hF, hw⟩)
  · have c1946 : ¬ 0 ≤ n := fun h9 => c1946 ((nI_leI (a := 0) (b := n) (by omega) (by omega)).mpr h9)
    refine lv_iconst (v := 0) hx hb dX0_init_18 (by decide) ?_
    refine lv_goto (tgt := 23) hx hb dX0_init_19 (by decide) ?_
    obtain ⟨hb1950, e1950, hat1950, hk1950⟩ := hT.o17 hv.1
    obtain ⟨g1950, rfl⟩ := hk1950
    have hB : Bx B0 D _ [(w, .inr (0, [.null, .ref q1945])), (q1945, .inl (cs 0, 16, .inl (fun _ => 0))), (v, .inl (cs 0, 600, .inl g1950))] [w, q1945] _ _ := hB.more hat1950 hb1950 (fa_c (ne_c hfw hv.1 (by decide))  (fa_c (nw_ne hat1950 hgeq1945) fa_n)) (fa_c (ne_c hfw hv.1 (by decide))  (fa_c (nw_ne hat1950 hgeq1945) fa_n))
    have hL : OkL B0 _ := hB.2.2.2.2.2
    refine cs_r (As := [.ref v, .int 0]) (rest := [.ref w]) ⟨hx, hb, hml, hown, hts⟩ (c_J7_copyOf_59c91 (v := v) (n := 0) hb1950 (hB.1 2 _ rfl) (by omega)) (va_cwS 2 hts gX0_init_J7_copyOf_59c91 rfl rfl rfl hdJ7_copyOf_59c91_o ⟨Nat.le_of_ble_eq_true rfl, Nat.le_of_ble_eq_true rfl⟩) hN hE hL rfl rfl hl.1 (Nat.le_of_ble_eq_true rfl) dX0_init_23 (show 1 + 1 ≤ 2 by omega) (show (0 + 16) + 600 ≤ 616 by omega) (fun q1951 H1 locs hL hqq1951 => ?_)
    obtain ⟨heq1951, hzq1951, hoq1951, gq1951, hatq1951⟩ := hqq1951
    have hB := hB.lc hL
    have hgeq1951 : _ ≤ q1951 := Nat.le_trans hB.2.2.1 (Nat.le_of_eq heq1951.symm)
    have hbq1951 : B0 ≤ q1951 := Nat.le_trans hb0 hgeq1951
    have hfq1951 : (κ q1951).1 = 0 := hT.fresh hgeq1951
    have hB := hB.nwm heq1951 hzq1951 hoq1951 hatq1951 hb0
    have hB : Bx B0 D _ [(w, .inr (0, [.null, .ref q1945])), (q1945, .inl (cs 0, 16, .inl (fun _ => 0))), (v, .inl (cs 0, 600, .inl g1950)), (q1951, .inl (cs 0, 0, .inl gq1951))] [q1951, w, q1945] _ _ := hB
    refine b_putF (D := D) (ci := 0) (v := .ref q1951) (ty := .array .int) (C := RX0) (T := TX0) (N := 2) hx hb hts iX0_init_0 tyX0 tyX0_ok nmX0 hown hN hB 0 rfl rfl 0 (by decide) (hts _ mX0_init_6) (fun _ h9 => h9) rfl hin rfl (by decide +kernel) rfl rfl (Nat.le_of_ble_eq_true rfl) (.inr ⟨rfl, List.mem_of_getElem? (i := 1) rfl⟩) dX0_init_26 (fun H locs hB => ?_)
    have hB : Bx B0 D _ [(w, .inr (0, [.ref q1951, .ref q1945])), (q1945, .inl (cs 0, 16, .inl (fun _ => 0))), (v, .inl (cs 0, 600, .inl g1950)), (q1951, .inl (cs 0, 0, .inl gq1951))] [q1951, w, q1945] _ _ := hB
    obtain ⟨κ1952, hκ1952⟩ : ∃ κ9 : KM, κ9 = (ku (ku (ku κ w (1, 15, 0, 0)) q1945 (22, 16, 0, 0)) q1951 (21, 15, 0, 0)) := ⟨_, rfl⟩
    have hx1952 : KX κ κ1952 := by rw [hκ1952]; exact (((KX.ku hfw).tr (KX.ku (by rw [ku_n (fun e9 => absurd (hB.2.1.1 1 0 _ _ rfl rfl e9) (by decide))]; exact hfq1945))).tr (KX.ku (by rw [ku_n (fun e9 => absurd (hB.2.1.1 3 1 _ _ rfl rfl e9) (by decide)), ku_n (fun e9 => absurd (hB.2.1.1 3 0 _ _ rfl rfl e9) (by decide))]; exact hfq1951)))
    have ew : κ1952 w = (1, 15, 0, 0) := by rw [hκ1952, ku_n (fun e9 => absurd (hB.2.1.1 0 3 _ _ rfl rfl e9) (by decide)), ku_n (fun e9 => absurd (hB.2.1.1 0 1 _ _ rfl rfl e9) (by decide)), ku_a]
    have hw : T2 κ1952 w 1 15 := ⟨by rw [ew], by rw [ew]⟩
    have eq1945 : κ1952 q1945 = (22, 16, 0, 0) := by rw [hκ1952, ku_n (fun e9 => absurd (hB.2.1.1 1 3 _ _ rfl rfl e9) (by decide)), ku_a]
    have hq1945 : T2 κ1952 q1945 22 16 := ⟨by rw [eq1945], by rw [eq1945]⟩
    have eq1951 : κ1952 q1951 = (21, 15, 0, 0) := by rw [hκ1952, ku_a]
    have hq1951 : T2 κ1952 q1951 21 15 := ⟨by rw [eq1951], by rw [eq1951]⟩
    have hx9 := hx1952
    have hT : WT B0 D cs T κ1952 _ := hT.closeN hB hx1952 (fun a9 h9 => by rw [hκ1952, ku_n (fun e9 => h9 (by rw [e9]; exact List.mem_of_getElem? (i := 0) rfl)), ku_n (fun e9 => h9 (by rw [e9]; exact List.mem_of_getElem? (i := 2) rfl)), ku_n (fun e9 => h9 (by rw [e9]; exact List.mem_of_getElem? (i := 1) rfl))]) ⟨⟨3, _, rfl, ok_21 hq1951.1 ⟨_, _, rfl, (by omega)⟩⟩, ⟨⟨0, _, rfl, ok_1 hw.1 ⟨_, _, rfl, hq1951, hq1945⟩⟩, ⟨⟨1, _, rfl, ok_22 hq1945.1 ⟨_, rfl⟩⟩, trivial⟩⟩⟩
    have hF : Fr B0 [] κ H0 _ := hF.closeN hB (fa_c (fun h9 => absurd hfq1951 h9) (fa_c (fun h9 => absurd hfw h9) (fa_c (fun h9 => absurd hfq1945 h9) fa_n)))
    have hL : OkL B0 _ := hB.2.2.2.2.2
    have hKF : KF κ κ1952 := hx1952.f
    have hKX : KX κ κ1952 := hx1952
    have hv := (hx1952.f.t2 hv (by decide))
    have hP : va_P D vwCl [(w, .inr (0, [.ref q1951, .ref q1945])), (q1945, .inl (cs 0, 16, .inl (fun _ => 0))), (v, .inl (cs 0, 600, .inl g1950)), (q1951, .inl (cs 0, 0, .inl gq1951))] _ := hB.1
    exact en_v hx hb hr hlocks hL (show 2 ≤ 2 by omega) (show ((0 + 16) + 600) ≤ 616 by omega) dX0_init_29 (⟨_, hKX, hT, hF, hw⟩)
theorem mX6_init_1 : (.methodLink RX6 1 objectInit : Cond) ∈ wsX6_init := List.mem_of_getElem? (i := 1) (by decide +kernel)
theorem mX6_init_2 : (.instanceMethod objectInit : Cond) ∈ wsX6_init := List.mem_of_getElem? (i := 2) (by decide +kernel)
theorem mX6_init_3 : (.code objectInit ⟨#[0xb1]⟩ 1 none : Cond) ∈ wsX6_init := List.mem_of_getElem? (i := 3) (by decide +kernel)
theorem mX6_init_4 : (.arrayClass .boolean : Cond) ∈ wsX6_init := List.mem_of_getElem? (i := 4) (by decide +kernel)
theorem mX6_init_5 : (.fieldLink RX6 9 "OneBeat$Setup" "isClockTold" "[Z" : Cond) ∈ wsX6_init := List.mem_of_getElem? (i := 5) (by decide +kernel)
theorem iX6_init_6 : ∀ w ∈ wsX60, w ∈ wsX6_init := fun w h => List.mem_of_mem_drop (List.mem_of_mem_take ((show wsX60 = (wsX6_init.drop 11).take 8 by decide +kernel) ▸ h))
theorem mX6_init_6 : (.arrayClass .int : Cond) ∈ wsX6_init := List.mem_of_getElem? (i := 6) (by decide +kernel)
theorem mX6_init_7 : (.fieldLink RX6 13 "OneBeat$Setup" "offset" "[I" : Cond) ∈ wsX6_init := List.mem_of_getElem? (i := 7) (by decide +kernel)
theorem mX6_init_8 : (.fieldLink RX6 17 "OneBeat$Setup" "drift" "[I" : Cond) ∈ wsX6_init := List.mem_of_getElem? (i := 8) (by decide +kernel)
theorem mX6_init_9 : (.fieldLink RX6 20 "OneBeat$Setup" "delay" "[I" : Cond) ∈ wsX6_init := List.mem_of_getElem? (i := 9) (by decide +kernel)
theorem mX6_init_10 : (.fieldLink RX6 23 "OneBeat$Setup" "players" "I" : Cond) ∈ wsX6_init := List.mem_of_getElem? (i := 10) (by decide +kernel)
set_option maxHeartbeats 4000000 in
set_option maxRecDepth 100000 in
theorem c_X6_init {l : Launch} {D : va_G} {cs : Nat → ClassId} {B0 T : Nat} {κ : KM} {H0 : Heap} (hT : WT B0 D cs T κ H0) {w : Nat} (hfw : (κ w).1 = 0) (hwb : B0 ≤ w) (hwa : va_at D vwCl (w, .inr (6, [.int 0, .int 0, .int 0, .null, .null, .null, .null, .null])) H0) {n : Nat} (hn : n ≤ 8) : KC l yX6_init wsX6_init 1 20 4 88 D cs B0 H0 [.ref w, .int (nI n)] (Qv (fun H => ∃ κ1, KX κ κ1 ∧ WT B0 D cs T κ1 H ∧ Fr B0 [] κ H0 H ∧ T2 κ1 w 7 11 ∧ κ1 w = (7, 11, 0, 0))) := by
  refine KC.of cX6_init 2 none (by decide) rfl (Nat.le_of_ble_eq_true rfl) ?_
  intro p e s m below meth c ls hx hb hr hml hown hts hlocks hin hN hE hH0 hl
  have hown : s.vm.findClass RX6 = some m.cls := hown
  have hl : lv_has ls 2 [(0, .ref w), (1, .int (nI n))] := hl
  have hL : OkL B0 [] := OkL.nil
  have hF : Fr B0 [] κ H0 H0 := Fr.rf
  have hP : va_P D vwCl [(w, .inr (6, [.int 0, .int 0, .int 0, .null, .null, .null, .null, .null]))] _ := va_P.cons hwa va_P.nil
  have hb0 : B0 ≤ H0.size := Nat.le_trans hwb (Nat.le_of_lt hwa.lt)
  refine lv_aload_n hx hb dX6_init_0 rfl (lv_at hl 0 rfl) ?_
  refine W.objInit hx hb hown (hts _ mX6_init_1) (hts _ mX6_init_2) (hts _ mX6_init_3) rfl (by rw [hml]; exact hl.1) rfl dX6_init_1 (Nat.le_of_ble_eq_true rfl) (Nat.le_of_ble_eq_true rfl) ?_
  refine W.eq (g2 := F0 m 4 ls []) rfl ?_
  refine lv_aload_n hx hb dX6_init_4 rfl (lv_at hl 0 rfl) ?_
  refine lv_bipush (v := 8) hx hb dX6_init_5 (by decide) ?_
  have hB : Bx B0 D _ [(w, .inr (6, [.int 0, .int 0, .int 0, .null, .null, .null, .null, .null]))] [] _ _ := Bx.of (fun a => (κ a).1) hL hP (fa_c hwb fa_n) (by simp only [List.map_cons, List.map_nil, hfw]; decide)
  refine nw_a (atype := .boolean) (ty := .boolean) (N' := 8) (a0 := (8, .inl (fun _ => 0))) 2 hN rfl hx hb (hts _ mX6_init_4) rfl (fun _ => rfl) (nI_pos (n := 8) (by omega)) (nI_clamp (n := 8) (by omega)) (show 8 * _ ≤ _ by simp only [componentBytes]; omega) (show 0 + 1 ≤ 4 by omega) (show 0 + 8 ≤ 88 by omega) dX6_init_7 (fun q1953 H heq1953 hzq1953 hoq1953 hatq1953 => ?_)
  have hgeq1953 : _ ≤ q1953 := Nat.le_trans hB.2.2.1 (Nat.le_of_eq heq1953.symm)
  have hbq1953 : B0 ≤ q1953 := Nat.le_trans hb0 hgeq1953
  have hfq1953 : (κ q1953).1 = 0 := hT.fresh hgeq1953
  have hB := hB.nwm heq1953 hzq1953 hoq1953 hatq1953 hb0
  have hB : Bx B0 D _ [(w, .inr (6, [.int 0, .int 0, .int 0, .null, .null, .null, .null, .null])), (q1953, .inl (cs 2, 8, .inl (fun _ => 0)))] [q1953] _ _ := hB
  refine b_putF (D := D) (ci := 6) (v := .ref q1953) (ty := .array .boolean) (C := RX6) (T := TX6) (N := 8) hx hb hts iX6_init_6 tyX6 tyX6_ok nmX6 hown hN hB 0 rfl rfl 4 (by decide) (hts _ mX6_init_5) (fun _ h9 => h9) rfl hin rfl (by decide +kernel) rfl rfl (Nat.le_of_ble_eq_true rfl) (.inl rfl) dX6_init_9 (fun H locs hB => ?_)
  have hB : Bx B0 D _ [(w, .inr (6, [.int 0, .int 0, .int 0, .null, .ref q1953, .null, .null, .null])), (q1953, .inl (cs 2, 8, .inl (fun _ => 0)))] [w, q1953] _ _ := hB
  refine lv_aload_n hx hb dX6_init_12 rfl (lv_at hl 0 rfl) ?_
  refine lv_bipush (v := 8) hx hb dX6_init_13 (by decide) ?_
  refine nw_a (atype := .int) (ty := .int) (N' := 8) (a0 := (8, .inl (fun _ => 0))) 0 hN rfl hx hb (hts _ mX6_init_6) rfl (fun _ => rfl) (nI_pos (n := 8) (by omega)) (nI_clamp (n := 8) (by omega)) (show 8 * _ ≤ _ by simp only [componentBytes]; omega) (show 1 + 1 ≤ 4 by omega) (show (0 + 8) + 8 ≤ 88 by omega) dX6_init_15 (fun q1954 H heq1954 hzq1954 hoq1954 hatq1954 => ?_)
  have hgeq1954 : _ ≤ q1954 := Nat.le_trans hB.2.2.1 (Nat.le_of_eq heq1954.symm)
  have hbq1954 : B0 ≤ q1954 := Nat.le_trans hb0 hgeq1954
  have hfq1954 : (κ q1954).1 = 0 := hT.fresh hgeq1954
  have hB := hB.nwm heq1954 hzq1954 hoq1954 hatq1954 hb0
  have hB : Bx B0 D _ [(w, .inr (6, [.int 0, .int 0, .int 0, .null, .ref q1953, .null, .null, .null])), (q1953, .inl (cs 2, 8, .inl (fun _ => 0))), (q1954, .inl (cs 0, 8, .inl (fun _ => 0)))] [q1954, w, q1953] _ _ := hB
  refine b_putF (D := D) (ci := 6) (v := .ref q1954) (ty := .array .int) (C := RX6) (T := TX6) (N := 8) hx hb hts iX6_init_6 tyX6 tyX6_ok nmX6 hown hN hB 0 rfl rfl 5 (by decide) (hts _ mX6_init_7) (fun _ h9 => h9) rfl hin rfl (by decide +kernel) rfl rfl (Nat.le_of_ble_eq_true rfl) (.inr ⟨rfl, List.mem_of_getElem? (i := 1) rfl⟩) dX6_init_17 (fun H locs hB => ?_)
  have hB : Bx B0 D _ [(w, .inr (6, [.int 0, .int 0, .int 0, .null, .ref q1953, .ref q1954, .null, .null])), (q1953, .inl (cs 2, 8, .inl (fun _ => 0))), (q1954, .inl (cs 0, 8, .inl (fun _ => 0)))] [q1954, w, q1953] _ _ := hB
  refine lv_aload_n hx hb dX6_init_20 rfl (lv_at hl 0 rfl) ?_
  refine lv_bipush (v := 8) hx hb dX6_init_21 (by decide) ?_
  refine nw_a (atype := .int) (ty := .int) (N' := 8) (a0 := (8, .inl (fun _ => 0))) 0 hN rfl hx hb (hts _ mX6_init_6) rfl (fun _ => rfl) (nI_pos (n := 8) (by omega)) (nI_clamp (n := 8) (by omega)) (show 8 * _ ≤ _ by simp only [componentBytes]; omega) (show 2 + 1 ≤ 4 by omega) (show ((0 + 8) + 8) + 8 ≤ 88 by omega) dX6_init_23 (fun q1955 H heq1955 hzq1955 hoq1955 hatq1955 => ?_)
  have hgeq1955 : _ ≤ q1955 := Nat.le_trans hB.2.2.1 (Nat.le_of_eq heq1955.symm)
  have hbq1955 : B0 ≤ q1955 := Nat.le_trans hb0 hgeq1955
  have hfq1955 : (κ q1955).1 = 0 := hT.fresh hgeq1955
  have hB := hB.nwm heq1955 hzq1955 hoq1955 hatq1955 hb0
  have hB : Bx B0 D _ [(w, .inr (6, [.int 0, .int 0, .int 0, .null, .ref q1953, .ref q1954, .null, .null])), (q1953, .inl (cs 2, 8, .inl (fun _ => 0))), (q1954, .inl (cs 0, 8, .inl (fun _ => 0))), (q1955, .inl (cs 0, 8, .inl (fun _ => 0)))] [q1955, q1954, w, q1953] _ _ := hB
  refine b_putF (D := D) (ci := 6) (v := .ref q1955) (ty := .array .int) (C := RX6) (T := TX6) (N := 8) hx hb hts iX6_init_6 tyX6 tyX6_ok nmX6 hown hN hB 0 rfl rfl 6 (by decide) (hts _ mX6_init_8) (fun _ h9 => h9) rfl hin rfl (by decide +kernel) rfl rfl (Nat.le_of_ble_eq_true rfl) (.inr ⟨rfl, List.mem_of_getElem? (i := 2) rfl⟩) dX6_init_25 (fun H locs hB => ?_)
  have hB : Bx B0 D _ [(w, .inr (6, [.int 0, .int 0, .int 0, .null, .ref q1953, .ref q1954, .ref q1955, .null])), (q1953, .inl (cs 2, 8, .inl (fun _ => 0))), (q1954, .inl (cs 0, 8, .inl (fun _ => 0))), (q1955, .inl (cs 0, 8, .inl (fun _ => 0)))] [q1955, q1954, w, q1953] _ _ := hB
  refine lv_aload_n hx hb dX6_init_28 rfl (lv_at hl 0 rfl) ?_
  refine lv_bipush (v := 64) hx hb dX6_init_29 (by decide) ?_
  refine nw_a (atype := .int) (ty := .int) (N' := 64) (a0 := (64, .inl (fun _ => 0))) 0 hN rfl hx hb (hts _ mX6_init_6) rfl (fun _ => rfl) (nI_pos (n := 64) (by omega)) (nI_clamp (n := 64) (by omega)) (show 64 * _ ≤ _ by simp only [componentBytes]; omega) (show 3 + 1 ≤ 4 by omega) (show (((0 + 8) + 8) + 8) + 64 ≤ 88 by omega) dX6_init_31 (fun q1956 H heq1956 hzq1956 hoq1956 hatq1956 => ?_)
  have hgeq1956 : _ ≤ q1956 := Nat.le_trans hB.2.2.1 (Nat.le_of_eq heq1956.symm)
  have hbq1956 : B0 ≤ q1956 := Nat.le_trans hb0 hgeq1956
  have hfq1956 : (κ q1956).1 = 0 := hT.fresh hgeq1956
  have hB := hB.nwm heq1956 hzq1956 hoq1956 hatq1956 hb0
  have hB : Bx B0 D _ [(w, .inr (6, [.int 0, .int 0, .int 0, .null, .ref q1953, .ref q1954, .ref q1955, .null])), (q1953, .inl (cs 2, 8, .inl (fun _ => 0))), (q1954, .inl (cs 0, 8, .inl (fun _ => 0))), (q1955, .inl (cs 0, 8, .inl (fun _ => 0))), (q1956, .inl (cs 0, 64, .inl (fun _ => 0)))] [q1956, q1955, q1954, w, q1953] _ _ := hB
  refine b_putF (D := D) (ci := 6) (v := .ref q1956) (ty := .array .int) (C := RX6) (T := TX6) (N := 8) hx hb hts iX6_init_6 tyX6 tyX6_ok nmX6 hown hN hB 0 rfl rfl 7 (by decide) (hts _ mX6_init_9) (fun _ h9 => h9) rfl hin rfl (by decide +kernel) rfl rfl (Nat.le_of_ble_eq_true rfl) (.inr ⟨rfl, List.mem_of_getElem? (i := 3) rfl⟩) dX6_init_33 (fun H locs hB => ?_)
  have hB : Bx B0 D _ [(w, .inr (6, [.int 0, .int 0, .int 0, .null, .ref q1953, .ref q1954, .ref q1955, .ref q1956])), (q1953, .inl (cs 2, 8, .inl (fun _ => 0))), (q1954, .inl (cs 0, 8, .inl (fun _ => 0))), (q1955, .inl (cs 0, 8, .inl (fun _ => 0))), (q1956, .inl (cs 0, 64, .inl (fun _ => 0)))] [q1956, q1955, q1954, w, q1953] _ _ := hB
  refine lv_aload_n hx hb dX6_init_36 rfl (lv_at hl 0 rfl) ?_
  refine lv_iload_n hx hb dX6_init_37 rfl (lv_at hl 1 rfl) ?_
  refine b_putF (D := D) (ci := 6) (v := .int (nI n)) (ty := .int) (C := RX6) (T := TX6) (N := 8) hx hb hts iX6_init_6 tyX6 tyX6_ok nmX6 hown hN hB 0 rfl rfl 0 (by decide) (hts _ mX6_init_10) (fun _ h9 => h9) rfl hin rfl (by decide +kernel) rfl rfl (Nat.le_of_ble_eq_true rfl) (.inr ⟨rfl, List.mem_of_getElem? (i := 3) rfl⟩) dX6_init_38 (fun H locs hB => ?_)
  have hB : Bx B0 D _ [(w, .inr (6, [.int (nI n), .int 0, .int 0, .null, .ref q1953, .ref q1954, .ref q1955, .ref q1956])), (q1953, .inl (cs 2, 8, .inl (fun _ => 0))), (q1954, .inl (cs 0, 8, .inl (fun _ => 0))), (q1955, .inl (cs 0, 8, .inl (fun _ => 0))), (q1956, .inl (cs 0, 64, .inl (fun _ => 0)))] [q1956, q1955, q1954, w, q1953] _ _ := hB
  obtain ⟨κ1957, hκ1957⟩ : ∃ κ9 : KM, κ9 = (ku (ku (ku (ku (ku κ w (7, 11, 0, 0)) q1953 (18, 11, 0, 0)) q1954 (19, 11, 0, 0)) q1955 (19, 11, 0, 0)) q1956 (20, 11, 0, 0)) := ⟨_, rfl⟩
  have hx1957 : KX κ κ1957 := by rw [hκ1957]; exact (((((KX.ku hfw).tr (KX.ku (by rw [ku_n (fun e9 => absurd (hB.2.1.1 1 0 _ _ rfl rfl e9) (by decide))]; exact hfq1953))).tr (KX.ku (by rw [ku_n (fun e9 => absurd (hB.2.1.1 2 1 _ _ rfl rfl e9) (by decide)), ku_n (fun e9 => absurd (hB.2.1.1 2 0 _ _ rfl rfl e9) (by decide))]; exact hfq1954))).tr (KX.ku (by rw [ku_n (fun e9 => absurd (hB.2.1.1 3 2 _ _ rfl rfl e9) (by decide)), ku_n (fun e9 => absurd (hB.2.1.1 3 1 _ _ rfl rfl e9) (by decide)), ku_n (fun e9 => absurd (hB.2.1.1 3 0 _ _ rfl rfl e9) (by decide))]; exact hfq1955))).tr (KX.ku (by rw [ku_n (fun e9 => absurd (hB.2.1.1 4 3 _ _ rfl rfl e9) (by decide)), ku_n (fun e9 => absurd (hB.2.1.1 4 2 _ _ rfl rfl e9) (by decide)), ku_n (fun e9 => absurd (hB.2.1.1 4 1 _ _ rfl rfl e9) (by decide)), ku_n (fun e9 => absurd (hB.2.1.1 4 0 _ _ rfl rfl e9) (by decide))]; exact hfq1956)))
  have ew : κ1957 w = (7, 11, 0, 0) := by rw [hκ1957, ku_n (fun e9 => absurd (hB.2.1.1 0 4 _ _ rfl rfl e9) (by decide)), ku_n (fun e9 => absurd (hB.2.1.1 0 3 _ _ rfl rfl e9) (by decide)), ku_n (fun e9 => absurd (hB.2.1.1 0 2 _ _ rfl rfl e9) (by decide)), ku_n (fun e9 => absurd (hB.2.1.1 0 1 _ _ rfl rfl e9) (by decide)), ku_a]
  have hw : T2 κ1957 w 7 11 := ⟨by rw [ew], by rw [ew]⟩
  have eq1953 : κ1957 q1953 = (18, 11, 0, 0) := by rw [hκ1957, ku_n (fun e9 => absurd (hB.2.1.1 1 4 _ _ rfl rfl e9) (by decide)), ku_n (fun e9 => absurd (hB.2.1.1 1 3 _ _ rfl rfl e9) (by decide)), ku_n (fun e9 => absurd (hB.2.1.1 1 2 _ _ rfl rfl e9) (by decide)), ku_a]
  have hq1953 : T2 κ1957 q1953 18 11 := ⟨by rw [eq1953], by rw [eq1953]⟩
  have eq1954 : κ1957 q1954 = (19, 11, 0, 0) := by rw [hκ1957, ku_n (fun e9 => absurd (hB.2.1.1 2 4 _ _ rfl rfl e9) (by decide)), ku_n (fun e9 => absurd (hB.2.1.1 2 3 _ _ rfl rfl e9) (by decide)), ku_a]
  have hq1954 : T2 κ1957 q1954 19 11 := ⟨by rw [eq1954], by rw [eq1954]⟩
  have eq1955 : κ1957 q1955 = (19, 11, 0, 0) := by rw [hκ1957, ku_n (fun e9 => absurd (hB.2.1.1 3 4 _ _ rfl rfl e9) (by decide)), ku_a]
  have hq1955 : T2 κ1957 q1955 19 11 := ⟨by rw [eq1955], by rw [eq1955]⟩
  have eq1956 : κ1957 q1956 = (20, 11, 0, 0) := by rw [hκ1957, ku_a]
  have hq1956 : T2 κ1957 q1956 20 11 := ⟨by rw [eq1956], by rw [eq1956]⟩
  have hx9 := hx1957
  have hT : WT B0 D cs T κ1957 _ := hT.closeN hB hx1957 (fun a9 h9 => by rw [hκ1957, ku_n (fun e9 => h9 (by rw [e9]; exact List.mem_of_getElem? (i := 0) rfl)), ku_n (fun e9 => h9 (by rw [e9]; exact List.mem_of_getElem? (i := 1) rfl)), ku_n (fun e9 => h9 (by rw [e9]; exact List.mem_of_getElem? (i := 2) rfl)), ku_n (fun e9 => h9 (by rw [e9]; exact List.mem_of_getElem? (i := 4) rfl)), ku_n (fun e9 => h9 (by rw [e9]; exact List.mem_of_getElem? (i := 3) rfl))]) ⟨⟨4, _, rfl, ok_20 hq1956.1 ⟨_, rfl, (fun _ _ => ⟨0, Nat.zero_le _, rfl⟩)⟩⟩, ⟨⟨3, _, rfl, ok_19 hq1955.1 ⟨_, rfl⟩⟩, ⟨⟨2, _, rfl, ok_19 hq1954.1 ⟨_, rfl⟩⟩, ⟨⟨0, _, rfl, ok_7 hw.1 ⟨_, _, _, _, _, _, _, _, rfl, (by omega), (Or.inl rfl), (Or.inl (by rw [ew]; decide)), ⟨hq1953.1, by rw [ew]; exact hq1953.2⟩, ⟨hq1954.1, by rw [ew]; exact hq1954.2⟩, ⟨hq1955.1, by rw [ew]; exact hq1955.2⟩, ⟨hq1956.1, by rw [ew]; exact hq1956.2⟩⟩⟩, ⟨⟨1, _, rfl, ok_18 hq1953.1 ⟨_, rfl, (fun _ _ => Or.inl rfl)⟩⟩, trivial⟩⟩⟩⟩⟩
  have hF : Fr B0 [] κ H0 _ := hF.closeN hB (fa_c (fun h9 => absurd hfq1956 h9) (fa_c (fun h9 => absurd hfq1955 h9) (fa_c (fun h9 => absurd hfq1954 h9) (fa_c (fun h9 => absurd hfw h9) (fa_c (fun h9 => absurd hfq1953 h9) fa_n)))))
  have hL : OkL B0 _ := hB.2.2.2.2.2
  have hKF : KF κ κ1957 := hx1957.f
  have hKX : KX κ κ1957 := hx1957
  have hP : va_P D vwCl [(w, .inr (6, [.int (nI n), .int 0, .int 0, .null, .ref q1953, .ref q1954, .ref q1955, .ref q1956])), (q1953, .inl (cs 2, 8, .inl (fun _ => 0))), (q1954, .inl (cs 0, 8, .inl (fun _ => 0))), (q1955, .inl (cs 0, 8, .inl (fun _ => 0))), (q1956, .inl (cs 0, 64, .inl (fun _ => 0)))] _ := hB.1
  exact en_v hx hb hr hlocks hL (show 4 ≤ 4 by omega) (show ((((0 + 8) + 8) + 8) + 64) ≤ 88 by omega) dX6_init_41 (⟨_, hKX, hT, hF, hw, ew⟩)
