theorem mJ0_coder_7d493_1 : (.fieldLink RJ0 38 "java/lang/String" "COMPACT_STRINGS" "Z" : Cond) ∈ wsJ0_coder_7d493 := List.mem_of_getElem? (i := 1) (by decide +kernel)
theorem mJ0_coder_7d493_2 : (.fieldLink RJ0 15 "java/lang/String" "coder" "B" : Cond) ∈ wsJ0_coder_7d493 := List.mem_of_getElem? (i := 2) (by decide +kernel)
set_option maxHeartbeats 4000000 in
set_option maxRecDepth 100000 in
theorem c_J0_coder_7d493 {l : Launch} {D : va_G} {cs : Nat → ClassId} {B0 T : Nat} {κ : KM} {H0 : Heap} (hT : WT B0 D cs T κ H0) {i : Nat} (hi9 : i ∈ nW) : KC l yJ0_coder_7d493 wsJ0_coder_7d493 0 0 0 0 D cs B0 H0 [.ref (cs (100 + i))] (Qi (fun r H => H = H0 ∧ r = 0)) := by
  refine KC.of cJ0_coder_7d493 1 (some .byte) (by decide) rfl (Nat.le_of_ble_eq_true rfl) ?_
  intro p e s m below meth c ls hx hb hr hml hown hts hlocks hin hN hE hH0 hl
  have hown : s.vm.findClass RJ0 = some m.cls := hown
  have hl : lv_has ls 1 [(0, .ref (cs (100 + i)))] := hl
  have hL : OkL B0 [] := OkL.nil
  refine W.vaS hL (fun hS => ?_)
  refine va_gets hx hb hE.2.2.1 hS hown (hts _ mJ0_coder_7d493_1) (fun _ h9 => h9) dJ0_coder_7d493_0 ?_
  refine lv_if_eq (tgt := 13) hx hb dJ0_coder_7d493_3 (by decide) (fun c9 => absurd c9 (by decide)) (fun _ => ?_)
  refine lv_aload_n hx hb dJ0_coder_7d493_6 rfl (lv_at hl 0 rfl) ?_
  refine W.vaS hL (fun hS => ?_)
  refine vk_getf hx hb (hE.2.1 _ hi9).2.1 hS hown (hts _ mJ0_coder_7d493_2) (fun _ h9 => h9) dJ0_coder_7d493_7 ?_
  refine lv_goto (tgt := 14) hx hb dJ0_coder_7d493_10 (by decide) ?_
  exact en_i hx hb hr hlocks hL rfl (Nat.zero_le _) (Nat.zero_le _) dJ0_coder_7d493_14 (⟨rfl, rfl⟩)
theorem mJ0_isLatin1_aae02_1 : (.fieldLink RJ0 38 "java/lang/String" "COMPACT_STRINGS" "Z" : Cond) ∈ wsJ0_isLatin1_aae02 := List.mem_of_getElem? (i := 1) (by decide +kernel)
theorem mJ0_isLatin1_aae02_2 : (.fieldLink RJ0 15 "java/lang/String" "coder" "B" : Cond) ∈ wsJ0_isLatin1_aae02 := List.mem_of_getElem? (i := 2) (by decide +kernel)
set_option maxHeartbeats 4000000 in
set_option maxRecDepth 100000 in
theorem c_J0_isLatin1_aae02 {l : Launch} {D : va_G} {cs : Nat → ClassId} {B0 T : Nat} {κ : KM} {H0 : Heap} (hT : WT B0 D cs T κ H0) {i : Nat} (hi9 : i ∈ nW) : KC l yJ0_isLatin1_aae02 wsJ0_isLatin1_aae02 0 0 0 0 D cs B0 H0 [.ref (cs (100 + i))] (Qi (fun r H => H = H0 ∧ r = 1)) := by
  refine KC.of cJ0_isLatin1_aae02 1 (some .boolean) (by decide) rfl (Nat.le_of_ble_eq_true rfl) ?_
  intro p e s m below meth c ls hx hb hr hml hown hts hlocks hin hN hE hH0 hl
  have hown : s.vm.findClass RJ0 = some m.cls := hown
  have hl : lv_has ls 1 [(0, .ref (cs (100 + i)))] := hl
  have hL : OkL B0 [] := OkL.nil
  refine W.vaS hL (fun hS => ?_)
  refine va_gets hx hb hE.2.2.1 hS hown (hts _ mJ0_isLatin1_aae02_1) (fun _ h9 => h9) dJ0_isLatin1_aae02_0 ?_
  refine lv_if_eq (tgt := 17) hx hb dJ0_isLatin1_aae02_3 (by decide) (fun c9 => absurd c9 (by decide)) (fun _ => ?_)
  refine lv_aload_n hx hb dJ0_isLatin1_aae02_6 rfl (lv_at hl 0 rfl) ?_
  refine W.vaS hL (fun hS => ?_)
  refine vk_getf hx hb (hE.2.1 _ hi9).2.1 hS hown (hts _ mJ0_isLatin1_aae02_2) (fun _ h9 => h9) dJ0_isLatin1_aae02_7 ?_
  refine lv_if_ne (tgt := 17) hx hb dJ0_isLatin1_aae02_10 (by decide) (fun c9 => absurd (by decide) c9) (fun _ => ?_)
  refine lv_iconst (v := 1) hx hb dJ0_isLatin1_aae02_13 (by decide) ?_
  refine lv_goto (tgt := 18) hx hb dJ0_isLatin1_aae02_14 (by decide) ?_
  exact en_i hx hb hr hlocks hL rfl (Nat.zero_le _) (Nat.zero_le _) dJ0_isLatin1_aae02_18 (⟨rfl, rfl⟩)
theorem mJ0_length_8abf5_1 : (.fieldLink RJ0 9 "java/lang/String" "value" "[B" : Cond) ∈ wsJ0_length_8abf5 := List.mem_of_getElem? (i := 1) (by decide +kernel)
theorem hdJ0_coder_7d493_v : yJ0_coder_7d493.cls = RJ0 ∧ yJ0_coder_7d493.cls ≠ "java/lang/invoke/MethodHandle" ∧ yJ0_coder_7d493.cls ≠ "java/lang/invoke/VarHandle" ∧ (parseMethodDescriptor yJ0_coder_7d493.desc).map (fun d => d.parameters.length) = some 0 := by decide +kernel
set_option maxHeartbeats 4000000 in
set_option maxRecDepth 100000 in
theorem c_J0_length_8abf5 {l : Launch} {D : va_G} {cs : Nat → ClassId} {B0 T : Nat} {κ : KM} {H0 : Heap} (hT : WT B0 D cs T κ H0) {i : Nat} (hi9 : i ∈ nW) : KC l yJ0_length_8abf5 wsJ0_length_8abf5 1 20 0 0 D cs B0 H0 [.ref (cs (100 + i))] (Qi (fun r H => H = H0 ∧ r = nI (nT i))) := by
  refine KC.of cJ0_length_8abf5 1 (some .int) (by decide) rfl (Nat.le_of_ble_eq_true rfl) ?_
  intro p e s m below meth c ls hx hb hr hml hown hts hlocks hin hN hE hH0 hl
  have hown : s.vm.findClass RJ0 = some m.cls := hown
  have hl : lv_has ls 1 [(0, .ref (cs (100 + i)))] := hl
  have hL : OkL B0 [] := OkL.nil
  refine lv_aload_n hx hb dJ0_length_8abf5_0 rfl (lv_at hl 0 rfl) ?_
  refine W.vaS hL (fun hS => ?_)
  refine vk_getf hx hb (hE.2.1 _ hi9).2.2.1 hS hown (hts _ mJ0_length_8abf5_1) (fun _ h9 => h9) dJ0_length_8abf5_1 ?_
  refine W.vaS hL (fun hS => ?_)
  obtain ⟨f9, hf9, hT9⟩ := (hE.2.1 _ hi9).2.2.2
  refine va_tlen (v := nI (nT i)) hx hb hT9 hS rfl dJ0_length_8abf5_4 ?_
  have hn9 := nT_le _ hi9
  refine lv_aload_n hx hb dJ0_length_8abf5_5 rfl (lv_at hl 0 rfl) ?_
  refine W.old hL (fun hold => ?_)
  refine cv_i (As := []) (rest := [.int (nI (nT i))]) (b := (cs (100 + i))) ⟨hx, hb, hml, hown, hts⟩ (c_J0_coder_7d493 hT (i := i) hi9) (cwV 0 hts gJ0_length_8abf5_J0_coder_7d493 rfl rfl rfl hdJ0_coder_7d493_v ⟨Nat.le_of_ble_eq_true rfl, Nat.le_of_ble_eq_true rfl⟩) hN hE hL (sx_rec (hE.2.1 _ hi9) hold) rfl rfl hl.1 (Nat.le_of_ble_eq_true rfl) dJ0_length_8abf5_6 (Nat.zero_le _) (Nat.zero_le _) (fun r1357 H1 locs hL hqr1357 => ?_)
  obtain ⟨h9, hqr1357⟩ := hqr1357; replace h9 := h9.symm; subst h9
  obtain rfl := hqr1357
  refine lv_ishr hx hb dJ0_length_8abf5_9 ?_
  refine tp_i (nI (nT i)) (shr0 _) ?_
  exact en_i hx hb hr hlocks hL rfl (Nat.zero_le _) (Nat.zero_le _) dJ0_length_8abf5_10 (⟨rfl, rfl⟩)
set_option maxHeartbeats 4000000 in
set_option maxRecDepth 100000 in
theorem c_J3_checkIndex_8e157 {l : Launch} {D : va_G} {cs : Nat → ClassId} {B0 T : Nat} {κ : KM} {H0 : Heap} (hT : WT B0 D cs T κ H0) {k n : Nat} {x : Value} (hx9 : x = .null ∨ ∃ a, x = .ref a) (hk : k < n) (hn : n ≤ 8) : KC l yJ3_checkIndex_8e157 wsJ3_checkIndex_8e157 0 0 0 0 D cs B0 H0 [.int (nI k), .int (nI n), x] (Qi (fun _ H => H = H0)) := by
  refine KC.of cJ3_checkIndex_8e157 3 (some .int) (by decide) rfl (by rcases hx9 with rfl | ⟨_, rfl⟩ <;> exact Nat.le_of_ble_eq_true rfl) ?_
  intro p e s m below meth c ls hx hb hr hml hown hts hlocks hin hN hE hH0 hl
  have hown : s.vm.findClass RJ3 = some m.cls := hown
  have hl : lv_has ls 3 [(0, .int (nI k)), (1, .int (nI n)), (2, x)] := hl
  have hL : OkL B0 [] := OkL.nil
  refine lv_iload_n hx hb dJ3_checkIndex_8e157_0 rfl (lv_at hl 0 rfl) ?_
  refine lv_if_lt (tgt := 9) hx hb dJ3_checkIndex_8e157_1 (by decide) (fun c1358 => ?_) (fun c1358 => ?_)
  · have c1358 : k < 0 := (nI_ltI (a := k) (b := 0) (by omega) (by omega)).mp c1358
    exact absurd c1358 (by omega)
  · have c1358 : ¬ k < 0 := fun h9 => c1358 ((nI_ltI (a := k) (b := 0) (by omega) (by omega)).mpr h9)
    refine lv_iload_n hx hb dJ3_checkIndex_8e157_4 rfl (lv_at hl 0 rfl) ?_
    refine lv_iload_n hx hb dJ3_checkIndex_8e157_5 rfl (lv_at hl 1 rfl) ?_
    refine lv_icmp_lt (tgt := 16) hx hb dJ3_checkIndex_8e157_6 (by decide) (fun c1359 => ?_) (fun c1359 => ?_)
    · have c1359 : k < n := (nI_ltI (a := k) (b := n) (by omega) (by omega)).mp c1359
      refine lv_iload_n hx hb dJ3_checkIndex_8e157_16 rfl (lv_at hl 0 rfl) ?_
      exact en_i hx hb hr hlocks hL rfl (Nat.zero_le _) (Nat.zero_le _) dJ3_checkIndex_8e157_17 (rfl)
    · have c1359 : ¬ k < n := fun h9 => c1359 ((nI_ltI (a := k) (b := n) (by omega) (by omega)).mpr h9)
      exact absurd (by omega) c1359
theorem mJ0_checkIndex_df160_1 : (.fieldLink RJ0 1053 "jdk/internal/util/Preconditions" "SIOOBE_FORMATTER" "Ljava/util/function/BiFunction;" : Cond) ∈ wsJ0_checkIndex_df160 := List.mem_of_getElem? (i := 1) (by decide +kernel)
theorem hdJ3_checkIndex_8e157_o : yJ3_checkIndex_8e157.cls ≠ "java/lang/invoke/MethodHandle" ∧ yJ3_checkIndex_8e157.cls ≠ "java/lang/invoke/VarHandle" ∧ (parseMethodDescriptor yJ3_checkIndex_8e157.desc).map (fun d => d.parameters.length) = some 3 := by decide +kernel
set_option maxHeartbeats 4000000 in
set_option maxRecDepth 100000 in
theorem c_J0_checkIndex_df160 {l : Launch} {D : va_G} {cs : Nat → ClassId} {B0 T : Nat} {κ : KM} {H0 : Heap} (hT : WT B0 D cs T κ H0) {k n : Nat} (hk : k < n) (hn : n ≤ 8) : KC l yJ0_checkIndex_df160 wsJ0_checkIndex_df160 1 22 0 0 D cs B0 H0 [.int (nI k), .int (nI n)] (Qv (fun H => H = H0)) := by
  refine KC.of cJ0_checkIndex_df160 2 none (by decide) rfl (Nat.le_of_ble_eq_true rfl) ?_
  intro p e s m below meth c ls hx hb hr hml hown hts hlocks hin hN hE hH0 hl
  have hown : s.vm.findClass RJ0 = some m.cls := hown
  have hl : lv_has ls 2 [(0, .int (nI k)), (1, .int (nI n))] := hl
  have hL : OkL B0 [] := OkL.nil
  refine lv_iload_n hx hb dJ0_checkIndex_df160_0 rfl (lv_at hl 0 rfl) ?_
  refine lv_iload_n hx hb dJ0_checkIndex_df160_1 rfl (lv_at hl 1 rfl) ?_
  refine W.vaS hL (fun hS => ?_)
  rcases hE.2.2.2 with hz9 | ⟨t9, hz9⟩
  · refine va_gets hx hb hz9 hS hown (hts _ mJ0_checkIndex_df160_1) (fun _ h9 => h9) dJ0_checkIndex_df160_2 ?_
    refine cs_i (As := [.int (nI k), .int (nI n), .null]) (rest := []) ⟨hx, hb, hml, hown, hts⟩ (c_J3_checkIndex_8e157 hT (k := k) (n := n) (x := .null) ((by first | exact Or.inl rfl | exact Or.inr ⟨_, rfl⟩)) (by first | omega | decide | assumption) (by first | omega | decide | assumption)) (va_cwS 3 hts gJ0_checkIndex_df160_J3_checkIndex_8e157 rfl rfl rfl hdJ3_checkIndex_8e157_o ⟨Nat.le_of_ble_eq_true rfl, Nat.le_of_ble_eq_true rfl⟩) hN hE hL rfl rfl hl.1 (Nat.le_of_ble_eq_true rfl) dJ0_checkIndex_df160_5 (Nat.zero_le _) (Nat.zero_le _) (fun r1360 H1 locs hL hqr1360 => ?_)
    obtain rfl := hqr1360.symm
    refine lv_pop hx hb dJ0_checkIndex_df160_8 rfl ?_
    exact en_v hx hb hr hlocks hL (Nat.zero_le _) (Nat.zero_le _) dJ0_checkIndex_df160_9 (rfl)
  · refine va_gets hx hb hz9 hS hown (hts _ mJ0_checkIndex_df160_1) (fun _ h9 => h9) dJ0_checkIndex_df160_2 ?_
    refine cs_i (As := [.int (nI k), .int (nI n), .ref t9]) (rest := []) ⟨hx, hb, hml, hown, hts⟩ (c_J3_checkIndex_8e157 hT (k := k) (n := n) (x := .ref t9) ((by first | exact Or.inl rfl | exact Or.inr ⟨_, rfl⟩)) (by first | omega | decide | assumption) (by first | omega | decide | assumption)) (va_cwS 3 hts gJ0_checkIndex_df160_J3_checkIndex_8e157 rfl rfl rfl hdJ3_checkIndex_8e157_o ⟨Nat.le_of_ble_eq_true rfl, Nat.le_of_ble_eq_true rfl⟩) hN hE hL rfl rfl hl.1 (Nat.le_of_ble_eq_true rfl) dJ0_checkIndex_df160_5 (Nat.zero_le _) (Nat.zero_le _) (fun r1361 H1 locs hL hqr1361 => ?_)
    obtain rfl := hqr1361.symm
    refine lv_pop hx hb dJ0_checkIndex_df160_8 rfl ?_
    exact en_v hx hb hr hlocks hL (Nat.zero_le _) (Nat.zero_le _) dJ0_checkIndex_df160_9 (rfl)
theorem hdJ0_checkIndex_df160_o : yJ0_checkIndex_df160.cls ≠ "java/lang/invoke/MethodHandle" ∧ yJ0_checkIndex_df160.cls ≠ "java/lang/invoke/VarHandle" ∧ (parseMethodDescriptor yJ0_checkIndex_df160.desc).map (fun d => d.parameters.length) = some 2 := by decide +kernel
set_option maxHeartbeats 4000000 in
set_option maxRecDepth 100000 in
theorem c_J1_charAt_3b067 {l : Launch} {D : va_G} {cs : Nat → ClassId} {B0 T : Nat} {κ : KM} {H0 : Heap} (hT : WT B0 D cs T κ H0) {i : Nat} (hi9 : i ∈ nW) {k : Nat} (hk : k < nT i) : KC l yJ1_charAt_3b067 wsJ1_charAt_3b067 2 43 0 0 D cs B0 H0 [.ref (cs (200 + i)), .int (nI k)] (Qi (fun r H => H = H0 ∧ r = nI (wc i k))) := by
  refine KC.of cJ1_charAt_3b067 2 (some .char) (by decide) rfl (Nat.le_of_ble_eq_true rfl) ?_
  intro p e s m below meth c ls hx hb hr hml hown hts hlocks hin hN hE hH0 hl
  have hown : s.vm.findClass RJ1 = some m.cls := hown
  have hl : lv_has ls 2 [(0, .ref (cs (200 + i))), (1, .int (nI k))] := hl
  have hL : OkL B0 [] := OkL.nil
  refine lv_iload_n hx hb dJ1_charAt_3b067_0 rfl (lv_at hl 1 rfl) ?_
  refine lv_aload_n hx hb dJ1_charAt_3b067_1 rfl (lv_at hl 0 rfl) ?_
  refine W.vaS hL (fun hS => ?_)
  obtain ⟨f9, hf9, hT9⟩ := (hE.2.1 _ hi9).2.2.2
  refine va_tlen (v := nI (nT i)) hx hb hT9 hS rfl dJ1_charAt_3b067_2 ?_
  have hn9 := nT_le _ hi9
  refine cs_v (As := [.int (nI k), .int (nI (nT i))]) (rest := []) ⟨hx, hb, hml, hown, hts⟩ (c_J0_checkIndex_df160 hT (k := k) (n := (nT i)) (by first | omega | decide | assumption) (by first | omega | decide | assumption)) (va_cwS 2 hts gJ1_charAt_3b067_J0_checkIndex_df160 rfl rfl rfl hdJ0_checkIndex_df160_o ⟨Nat.le_of_ble_eq_true rfl, Nat.le_of_ble_eq_true rfl⟩) hN hE hL rfl rfl hl.1 (Nat.le_of_ble_eq_true rfl) dJ1_charAt_3b067_3 (Nat.zero_le _) (Nat.zero_le _) (fun H1 locs hL hqr1362 => ?_)
  obtain rfl := hqr1362.symm
  refine lv_aload_n hx hb dJ1_charAt_3b067_6 rfl (lv_at hl 0 rfl) ?_
  refine lv_iload_n hx hb dJ1_charAt_3b067_7 rfl (lv_at hl 1 rfl) ?_
  refine W.vaS hL (fun hS => ?_)
  obtain ⟨f9, hf9, hT9⟩ := (hE.2.1 _ hi9).2.2.2
  have hn9 := nT_le _ hi9
  have hb9 := hf9 (k) (by omega)
  refine va_tb (v := .int (nB i k)) hx hb hT9 hS (vp_in_nI (n := k) (N := nT i) (by omega) (by omega)) (by rw [show ((nI k) : Int32).toNatClampNeg = k from nI_clamp (n := k) (by omega)]; exact hb9) dJ1_charAt_3b067_8 ?_
  refine lv_sipush (v := 255) hx hb dJ1_charAt_3b067_9 (by decide) ?_
  refine lv_iand hx hb dJ1_charAt_3b067_12 ?_
  have hw9 := wc_lt hi9 hk
  refine tp_i (nI ((wc i k))) (nB_255 hi9 hk) ?_
  refine lv_i2c (v := (nI ((wc i k)))) hx hb dJ1_charAt_3b067_13 (i2cn (by omega)) ?_
  exact en_i hx hb hr hlocks hL (nch (by omega)) (Nat.zero_le _) (Nat.zero_le _) dJ1_charAt_3b067_14 (⟨rfl, rfl⟩)
theorem hdJ0_isLatin1_aae02_v : yJ0_isLatin1_aae02.cls = RJ0 ∧ yJ0_isLatin1_aae02.cls ≠ "java/lang/invoke/MethodHandle" ∧ yJ0_isLatin1_aae02.cls ≠ "java/lang/invoke/VarHandle" ∧ (parseMethodDescriptor yJ0_isLatin1_aae02.desc).map (fun d => d.parameters.length) = some 0 := by decide +kernel
theorem mJ0_charAt_5068e_1 : (.fieldLink RJ0 9 "java/lang/String" "value" "[B" : Cond) ∈ wsJ0_charAt_5068e := List.mem_of_getElem? (i := 1) (by decide +kernel)
theorem hdJ1_charAt_3b067_o : yJ1_charAt_3b067.cls ≠ "java/lang/invoke/MethodHandle" ∧ yJ1_charAt_3b067.cls ≠ "java/lang/invoke/VarHandle" ∧ (parseMethodDescriptor yJ1_charAt_3b067.desc).map (fun d => d.parameters.length) = some 2 := by decide +kernel
set_option maxHeartbeats 4000000 in
set_option maxRecDepth 100000 in
theorem c_J0_charAt_5068e {l : Launch} {D : va_G} {cs : Nat → ClassId} {B0 T : Nat} {κ : KM} {H0 : Heap} (hT : WT B0 D cs T κ H0) {i : Nat} (hi9 : i ∈ nW) {k : Nat} (hk : k < nT i) : KC l yJ0_charAt_5068e wsJ0_charAt_5068e 3 64 0 0 D cs B0 H0 [.ref (cs (100 + i)), .int (nI k)] (Qi (fun r H => H = H0 ∧ r = nI (wc i k))) := by
  refine KC.of cJ0_charAt_5068e 2 (some .char) (by decide) rfl (Nat.le_of_ble_eq_true rfl) ?_
  intro p e s m below meth c ls hx hb hr hml hown hts hlocks hin hN hE hH0 hl
  have hown : s.vm.findClass RJ0 = some m.cls := hown
  have hl : lv_has ls 2 [(0, .ref (cs (100 + i))), (1, .int (nI k))] := hl
  have hL : OkL B0 [] := OkL.nil
  refine lv_aload_n hx hb dJ0_charAt_5068e_0 rfl (lv_at hl 0 rfl) ?_
  refine W.old hL (fun hold => ?_)
  refine cv_i (As := []) (rest := []) (b := (cs (100 + i))) ⟨hx, hb, hml, hown, hts⟩ (c_J0_isLatin1_aae02 hT (i := i) hi9) (cwV 0 hts gJ0_charAt_5068e_J0_isLatin1_aae02 rfl rfl rfl hdJ0_isLatin1_aae02_v ⟨Nat.le_of_ble_eq_true rfl, Nat.le_of_ble_eq_true rfl⟩) hN hE hL (sx_rec (hE.2.1 _ hi9) hold) rfl rfl hl.1 (Nat.le_of_ble_eq_true rfl) dJ0_charAt_5068e_1 (Nat.zero_le _) (Nat.zero_le _) (fun r1364 H1 locs hL hqr1364 => ?_)
  obtain ⟨h9, hqr1364⟩ := hqr1364; replace h9 := h9.symm; subst h9
  obtain rfl := hqr1364
  refine lv_if_eq (tgt := 16) hx hb dJ0_charAt_5068e_4 (by decide) (fun c9 => absurd c9 (by decide)) (fun _ => ?_)
  refine lv_aload_n hx hb dJ0_charAt_5068e_7 rfl (lv_at hl 0 rfl) ?_
  refine W.vaS hL (fun hS => ?_)
  refine vk_getf hx hb (hE.2.1 _ hi9).2.2.1 hS hown (hts _ mJ0_charAt_5068e_1) (fun _ h9 => h9) dJ0_charAt_5068e_8 ?_
  refine lv_iload_n hx hb dJ0_charAt_5068e_11 rfl (lv_at hl 1 rfl) ?_
  refine cs_i (As := [.ref (cs (200 + i)), .int (nI k)]) (rest := []) ⟨hx, hb, hml, hown, hts⟩ (c_J1_charAt_3b067 hT (i := i) hi9 (k := k) (by first | omega | decide | assumption)) (va_cwS 2 hts gJ0_charAt_5068e_J1_charAt_3b067 rfl rfl rfl hdJ1_charAt_3b067_o ⟨Nat.le_of_ble_eq_true rfl, Nat.le_of_ble_eq_true rfl⟩) hN hE hL rfl rfl hl.1 (Nat.le_of_ble_eq_true rfl) dJ0_charAt_5068e_12 (Nat.zero_le _) (Nat.zero_le _) (fun r1365 H1 locs hL hqr1365 => ?_)
  obtain ⟨h9, hqr1365⟩ := hqr1365; replace h9 := h9.symm; subst h9
  obtain rfl := hqr1365
  have hw9 := wc_lt (i := i) (k := k) hi9 (by omega)
  exact en_i hx hb hr hlocks hL (nch (by omega)) (Nat.zero_le _) (Nat.zero_le _) dJ0_charAt_5068e_15 (⟨rfl, rfl⟩)
theorem mX5_hasRoomFor_1 : (.fieldLink RX5 19 "OneBeat$Reader" "stored" "I" : Cond) ∈ wsX5_hasRoomFor := List.mem_of_getElem? (i := 1) (by decide +kernel)
theorem iX5_hasRoomFor_5 : ∀ w ∈ wsX50, w ∈ wsX5_hasRoomFor := fun w h => List.mem_of_mem_drop (List.mem_of_mem_take ((show wsX50 = (wsX5_hasRoomFor.drop 3).take 14 by decide +kernel) ▸ h))
theorem mX5_hasRoomFor_2 : (.fieldLink RX5 11 "OneBeat$Reader" "text" "[B" : Cond) ∈ wsX5_hasRoomFor := List.mem_of_getElem? (i := 2) (by decide +kernel)
set_option maxHeartbeats 4000000 in
set_option maxRecDepth 100000 in
theorem c_X5_hasRoomFor {l : Launch} {D : va_G} {cs : Nat → ClassId} {B0 T : Nat} {κ : KM} {H0 : Heap} (hT : WT B0 D cs T κ H0) {w : Nat} (hw : T2 κ w 6 10) {n : Nat} (hn : n ≤ 600) : KC l yX5_hasRoomFor wsX5_hasRoomFor 0 0 0 0 D cs B0 H0 [.ref w, .int (nI n)] (Qi (fun r H => H = H0 ∧ ((r = 0 ∧ 600 < (κ w).2.2.1 + n) ∨ (r = 1 ∧ (κ w).2.2.1 + n ≤ 600)))) := by
  refine KC.of cX5_hasRoomFor 2 (some .boolean) (by decide) rfl (Nat.le_of_ble_eq_true rfl) ?_
  intro p e s m below meth c ls hx hb hr hml hown hts hlocks hin hN hE hH0 hl
  have hown : s.vm.findClass RX5 = some m.cls := hown
  have hl : lv_has ls 2 [(0, .ref w), (1, .int (nI n))] := hl
  have hL : OkL B0 [] := OkL.nil
  refine lv_aload_n hx hb dX5_hasRoomFor_0 rfl (lv_at hl 0 rfl) ?_
  obtain ⟨hb1366, e1366, hat1366, hk1366⟩ := hT.o6 hw.1
  obtain ⟨f1366_0, f1366_2, f1366_3, f1366_4, f1366_5, f1366_6, f1366_7, f1366_8, f1366_9, f1366_10, f1366_11, f1366_12, f1366_13, rfl, c1366_1, c1366_2, c1366_3, c1366_5, c1366_10, t1366_0, t1366_9, c1366_11, c1366_p2⟩ := hk1366
  have hP : va_P D vwCl [(w, .inr (5, [.ref f1366_0, .int (nI ((κ w).2.2.1)), .int (nI f1366_2), .int (nI f1366_3), .int f1366_4, .int (nI f1366_5), .int f1366_6, .int f1366_7, .int f1366_8, .ref f1366_9, .int (nI f1366_10), f1366_11, .int f1366_12, .int f1366_13]))] _ := va_P.cons hat1366 va_P.nil
  refine va_get (D := D) (ci := 5) (v := .int (nI ((κ w).2.2.1))) (C := RX5) (T := TX5) (N := 14) hx hb hts iX5_hasRoomFor_5 hown hN.1 hP 0 rfl rfl 1 (by decide) (hts _ mX5_hasRoomFor_1) (fun _ h9 => h9) rfl dX5_hasRoomFor_1 ?_
  refine lv_iload_n hx hb dX5_hasRoomFor_4 rfl (lv_at hl 1 rfl) ?_
  refine lv_iadd hx hb dX5_hasRoomFor_5 ?_
  refine tp_i (nI (((κ w).2.2.1) + n)) (nI_add ((κ w).2.2.1) n) ?_
  refine lv_aload_n hx hb dX5_hasRoomFor_6 rfl (lv_at hl 0 rfl) ?_
  refine va_get (D := D) (ci := 5) (v := .ref f1366_0) (C := RX5) (T := TX5) (N := 14) hx hb hts iX5_hasRoomFor_5 hown hN.1 hP 0 rfl rfl 0 (by decide) (hts _ mX5_hasRoomFor_2) (fun _ h9 => h9) rfl dX5_hasRoomFor_7 ?_
  obtain ⟨hb1367, e1367, hat1367, hk1367⟩ := hT.o16 t1366_0.1
  obtain ⟨g1367, rfl⟩ := hk1367
  have hP : va_P D vwCl [(f1366_0, .inl (cs 1, 600, .inl g1367)), (w, .inr (5, [.ref f1366_0, .int (nI ((κ w).2.2.1)), .int (nI f1366_2), .int (nI f1366_3), .int f1366_4, .int (nI f1366_5), .int f1366_6, .int f1366_7, .int f1366_8, .ref f1366_9, .int (nI f1366_10), f1366_11, .int f1366_12, .int f1366_13]))] _ := va_P.cons hat1367 hP
  refine va_alen (v := 600) hx hb hN.1 hP 0 1 rfl rfl rfl dX5_hasRoomFor_10 ?_
  refine lv_icmp_gt (tgt := 18) hx hb dX5_hasRoomFor_11 (by decide) (fun c1368 => ?_) (fun c1368 => ?_)
  · have c1368 : 600 < (((κ w).2.2.1) + n) := (nI_ltI (a := 600) (b := (((κ w).2.2.1) + n)) (by omega) (by omega)).mp c1368
    refine lv_iconst (v := 0) hx hb dX5_hasRoomFor_18 (by decide) ?_
    exact en_i hx hb hr hlocks hL rfl (Nat.zero_le _) (Nat.zero_le _) dX5_hasRoomFor_19 (⟨rfl, Or.inl ⟨rfl, by omega⟩⟩)
  · have c1368 : ¬ 600 < (((κ w).2.2.1) + n) := fun h9 => c1368 ((nI_ltI (a := 600) (b := (((κ w).2.2.1) + n)) (by omega) (by omega)).mpr h9)
    refine lv_iconst (v := 1) hx hb dX5_hasRoomFor_14 (by decide) ?_
    refine lv_goto (tgt := 19) hx hb dX5_hasRoomFor_15 (by decide) ?_
    exact en_i hx hb hr hlocks hL rfl (Nat.zero_le _) (Nat.zero_le _) dX5_hasRoomFor_19 (⟨rfl, Or.inr ⟨rfl, by omega⟩⟩)
theorem mX5_fail_1 : (.fieldLink RX5 186 "OneBeat$Reader" "errorCode" "I" : Cond) ∈ wsX5_fail := List.mem_of_getElem? (i := 1) (by decide +kernel)
theorem iX5_fail_5 : ∀ w ∈ wsX50, w ∈ wsX5_fail := fun w h => List.mem_of_mem_drop (List.mem_of_mem_take ((show wsX50 = (wsX5_fail.drop 3).take 14 by decide +kernel) ▸ h))
theorem mX5_fail_2 : (.fieldLink RX5 41 "OneBeat$Reader" "errorStart" "I" : Cond) ∈ wsX5_fail := List.mem_of_getElem? (i := 2) (by decide +kernel)
set_option maxHeartbeats 4000000 in
set_option maxRecDepth 100000 in
theorem c_X5_fail {l : Launch} {D : va_G} {cs : Nat → ClassId} {B0 T : Nat} {κ : KM} {H0 : Heap} (hT : WT B0 D cs T κ H0) {y : Int32} {x : Int32} {w : Nat} (hw : T2 κ w 6 10) {tx co tn cc : Nat} {f cf B : Nat → Int32} {ta tk ec es : Int32} {su : Value} (hY : BY B tn) (hf : TXB f B tn) (hcc : cc ≤ 600) {pz s0 : Nat} {k0 v0 : Int32} (hpz : pz ≤ tn) (hs0 : s0 ≤ 600) (hrs : RS D cs w H0 tx f co cf (κ w).2.2.1 tn pz k0 s0 v0 ta tk cc su ec es) : KC l yX5_fail wsX5_fail 0 0 0 0 D cs B0 H0 [.ref w, .int x, .int y] (Qi (fun r H => WT B0 D cs T κ H ∧ Fr B0 [10] κ H0 H ∧ (r = 0 ∧ RS D cs w H tx f co cf (κ w).2.2.1 tn pz k0 s0 v0 ta tk cc su x y))) := by
  refine KC.of cX5_fail 3 (some .boolean) (by decide) rfl (Nat.le_of_ble_eq_true rfl) ?_
  intro p e s m below meth c ls hx hb hr hml hown hts hlocks hin hN hE hH0 hl
  have hown : s.vm.findClass RX5 = some m.cls := hown
  have hl : lv_has ls 3 [(0, .ref w), (1, .int x), (2, .int y)] := hl
  have hL : OkL B0 [] := OkL.nil
  have hF : Fr B0 [10] κ H0 H0 := Fr.rf
  obtain ⟨hkw, hktx, hkco⟩ := hrs
  have h6n := hY.1
  obtain ⟨htx, hco⟩ : T2 κ tx 16 10 ∧ T2 κ co 17 10 := RS.t2 hT hw hkw
  refine lv_aload_n hx hb dX5_fail_0 rfl (lv_at hl 0 rfl) ?_
  refine lv_iload_n hx hb dX5_fail_1 rfl (lv_at hl 1 rfl) ?_
  obtain ⟨hb1369, e1369, hat1369, hk1369⟩ := hT.o6 hw.1
  obtain ⟨f1369_0, f1369_2, f1369_3, f1369_4, f1369_5, f1369_6, f1369_7, f1369_8, f1369_9, f1369_10, f1369_11, f1369_12, f1369_13, rfl, c1369_1, c1369_2, c1369_3, c1369_5, c1369_10, t1369_0, t1369_9, c1369_11, c1369_p2⟩ := hk1369
  obtain ⟨rfl, rfl, rfl, rfl, rfl, rfl, rfl, rfl, rfl, rfl, rfl, rfl, rfl⟩ := eq6 hat1369 hkw (by omega)
  have hP : va_P D vwCl [(w, .inr (5, [.ref tx, .int (nI ((κ w).2.2.1)), .int (nI tn), .int (nI pz), .int k0, .int (nI s0), .int v0, .int ta, .int tk, .ref co, .int (nI cc), su, .int ec, .int es]))] _ := va_P.cons hat1369 va_P.nil
  have hB : Bx B0 D _ [(w, .inr (5, [.ref tx, .int (nI ((κ w).2.2.1)), .int (nI tn), .int (nI pz), .int k0, .int (nI s0), .int v0, .int ta, .int tk, .ref co, .int (nI cc), su, .int ec, .int es]))] [] _ _ := Bx.of (fun a => (κ a).1) hL hP (fa_c hb1369 fa_n) (by simp only [List.map_cons, List.map_nil, hw.1]; decide)
  refine b_put (D := D) (ci := 5) (v := .int x) (ty := .int) (C := RX5) (T := TX5) (N := 14) hx hb hts iX5_fail_5 tyX5 tyX5_ok nmX5 hown hN hB 0 rfl rfl 12 (by decide) (hts _ mX5_fail_1) (fun _ h9 => h9) rfl (by decide +kernel) rfl rfl (Nat.le_of_ble_eq_true rfl) (.inl rfl) dX5_fail_2 (fun H locs hB => ?_)
  have hB : Bx B0 D _ [(w, .inr (5, [.ref tx, .int (nI ((κ w).2.2.1)), .int (nI tn), .int (nI pz), .int k0, .int (nI s0), .int v0, .int ta, .int tk, .ref co, .int (nI cc), su, .int x, .int es]))] [w] _ _ := hB
  refine lv_aload_n hx hb dX5_fail_5 rfl (lv_at hl 0 rfl) ?_
  refine lv_iload_n hx hb dX5_fail_6 rfl (lv_at hl 2 rfl) ?_
  refine b_put (D := D) (ci := 5) (v := .int y) (ty := .int) (C := RX5) (T := TX5) (N := 14) hx hb hts iX5_fail_5 tyX5 tyX5_ok nmX5 hown hN hB 0 rfl rfl 13 (by decide) (hts _ mX5_fail_2) (fun _ h9 => h9) rfl (by decide +kernel) rfl rfl (Nat.le_of_ble_eq_true rfl) (.inr ⟨rfl, List.mem_of_getElem? (i := 0) rfl⟩) dX5_fail_7 (fun H locs hB => ?_)
  have hB : Bx B0 D _ [(w, .inr (5, [.ref tx, .int (nI ((κ w).2.2.1)), .int (nI tn), .int (nI pz), .int k0, .int (nI s0), .int v0, .int ta, .int tk, .ref co, .int (nI cc), su, .int x, .int y]))] [w] _ _ := hB
  refine lv_iconst (v := 0) hx hb dX5_fail_10 (by decide) ?_
  have hT : WT B0 D cs T κ _ := hT.close hB ⟨⟨0, _, rfl, ok_6 hw.1 ⟨_, _, _, _, _, _, _, _, _, _, _, _, _, rfl, (by omega), (by omega), (by omega), (by omega), (by omega), t1369_0, t1369_9, c1369_11, c1369_p2⟩⟩, trivial⟩
  have hF : Fr B0 [10] κ H0 _ := hF.close hB (fa_c (by simp [hw.2]) fa_n)
  have hL : OkL B0 _ := hB.2.2.2.2.2
  have hP : va_P D vwCl [(w, .inr (5, [.ref tx, .int (nI ((κ w).2.2.1)), .int (nI tn), .int (nI pz), .int k0, .int (nI s0), .int v0, .int ta, .int tk, .ref co, .int (nI cc), su, .int x, .int y]))] _ := hB.1
  have hkw : va_at D vwCl (w, .inr (5, [.ref tx, .int (nI ((κ w).2.2.1)), .int (nI tn), .int (nI pz), .int k0, .int (nI s0), .int v0, .int ta, .int tk, .ref co, .int (nI cc), su, .int x, .int y])) _ := hP 0 _ rfl
  have hktx := hktx.kept (hB.2.2.2.1 _ hktx.lt (by simp only [List.mem_cons, List.not_mem_nil, or_false, not_or]; exact ne_c htx.1 hw.1 (by decide)))
  have hkco := hkco.kept (hB.2.2.2.1 _ hkco.lt (by simp only [List.mem_cons, List.not_mem_nil, or_false, not_or]; exact ne_c hco.1 hw.1 (by decide)))
  exact en_i hx hb hr hlocks hL rfl (Nat.zero_le _) (Nat.zero_le _) dX5_fail_11 (⟨hT, hF, rfl, ⟨hkw, hktx, hkco⟩⟩)
theorem mX5_step_1 : (.fieldLink RX5 35 "OneBeat$Reader" "position" "I" : Cond) ∈ wsX5_step := List.mem_of_getElem? (i := 1) (by decide +kernel)
theorem iX5_step_5 : ∀ w ∈ wsX50, w ∈ wsX5_step := fun w h => List.mem_of_mem_drop (List.mem_of_mem_take ((show wsX50 = (wsX5_step.drop 8).take 14 by decide +kernel) ▸ h))
theorem mX5_step_2 : (.fieldLink RX5 32 "OneBeat$Reader" "length" "I" : Cond) ∈ wsX5_step := List.mem_of_getElem? (i := 2) (by decide +kernel)
theorem mX5_step_4 : (.fieldLink RX5 124 "OneBeat$Reader" "start" "I" : Cond) ∈ wsX5_step := List.mem_of_getElem? (i := 4) (by decide +kernel)
theorem mX5_step_5 : (.fieldLink RX5 175 "OneBeat$Reader" "value" "I" : Cond) ∈ wsX5_step := List.mem_of_getElem? (i := 5) (by decide +kernel)
theorem mX5_step_3 : (.fieldLink RX5 11 "OneBeat$Reader" "text" "[B" : Cond) ∈ wsX5_step := List.mem_of_getElem? (i := 3) (by decide +kernel)
theorem mX5_step_6 : (.fieldLink RX5 73 "OneBeat$Reader" "kind" "I" : Cond) ∈ wsX5_step := List.mem_of_getElem? (i := 6) (by decide +kernel)
theorem mX5_step_7 : (.constant RX5 189 (1000000) : Cond) ∈ wsX5_step := List.mem_of_getElem? (i := 7) (by decide +kernel)
set_option maxHeartbeats 4000000 in
set_option maxRecDepth 100000 in
theorem c_X5_step {l : Launch} {D : va_G} {cs : Nat → ClassId} {B0 T : Nat} {κ : KM} {H0 : Heap} (hT : WT B0 D cs T κ H0) {w : Nat} (hw : T2 κ w 6 10) {tx co tn cc : Nat} {f cf B : Nat → Int32} {ta tk ec es : Int32} {su : Value} (hY : BY B tn) (hf : TXB f B tn) (hcc : cc ≤ 600) {pz s0 : Nat} {k0 v0 : Int32} (hpz : pz ≤ tn) (hs0 : s0 ≤ 600) (hrs : RS D cs w H0 tx f co cf (κ w).2.2.1 tn pz k0 s0 v0 ta tk cc su ec es) : KC l yX5_step wsX5_step 0 0 0 0 D cs B0 H0 [.ref w] (Qv (fun H => WT B0 D cs T κ H ∧ Fr B0 [10] κ H0 H ∧ (RS D cs w H tx f co cf (κ w).2.2.1 tn (tkE B (skp B pz)) (tkK B (skp B pz)) (skp B pz) (tkV B (skp B pz)) ta tk cc su ec es))) := by
  refine KC.of cX5_step 3 none (by decide) rfl (Nat.le_of_ble_eq_true rfl) ?_
  intro p e s m below meth c ls hx hb hr hml hown hts hlocks hin hN hE hH0 hl
  have hown : s.vm.findClass RX5 = some m.cls := hown
  have hl : lv_has ls 3 [(0, .ref w)] := hl
  have hL : OkL B0 [] := OkL.nil
  have hF : Fr B0 [10] κ H0 H0 := Fr.rf
  obtain ⟨hkw, hktx, hkco⟩ := hrs
  have h6n := hY.1
  obtain ⟨htx, hco⟩ : T2 κ tx 16 10 ∧ T2 κ co 17 10 := RS.t2 hT hw hkw
  obtain ⟨hb1370, e1370, hat1370, hk1370⟩ := hT.o6 hw.1
  obtain ⟨f1370_0, f1370_2, f1370_3, f1370_4, f1370_5, f1370_6, f1370_7, f1370_8, f1370_9, f1370_10, f1370_11, f1370_12, f1370_13, rfl, c1370_1, c1370_2, c1370_3, c1370_5, c1370_10, t1370_0, t1370_9, c1370_11, c1370_p2⟩ := hk1370
  obtain ⟨rfl, rfl, rfl, rfl, rfl, rfl, rfl, rfl, rfl, rfl, rfl, rfl, rfl⟩ := eq6 hat1370 hkw (by omega)
  have hP : va_P D vwCl [(w, .inr (5, [.ref tx, .int (nI ((κ w).2.2.1)), .int (nI tn), .int (nI pz), .int k0, .int (nI s0), .int v0, .int ta, .int tk, .ref co, .int (nI cc), su, .int ec, .int es]))] _ := va_P.cons hat1370 va_P.nil
  obtain ⟨hb1371, e1371, hat1371, hk1371⟩ := hT.o16 t1370_0.1
  have hat1371 := hktx
  have hP : va_P D vwCl [(tx, .inl (cs 1, 600, .inl f)), (w, .inr (5, [.ref tx, .int (nI ((κ w).2.2.1)), .int (nI tn), .int (nI pz), .int k0, .int (nI s0), .int v0, .int ta, .int tk, .ref co, .int (nI cc), su, .int ec, .int es]))] _ := va_P.cons hat1371 hP
  have hB : Bx B0 D _ [(tx, .inl (cs 1, 600, .inl f)), (w, .inr (5, [.ref tx, .int (nI ((κ w).2.2.1)), .int (nI tn), .int (nI pz), .int k0, .int (nI s0), .int v0, .int ta, .int tk, .ref co, .int (nI cc), su, .int ec, .int es]))] [] _ _ := Bx.of (fun a => (κ a).1) hL hP (fa_c hb1371 (fa_c hb1370 fa_n)) (by simp only [List.map_cons, List.map_nil, t1370_0.1, hw.1]; decide)
  have hB : Bx B0 D _ [(tx, .inl (cs 1, 600, .inl f)), (w, .inr (5, [.ref tx, .int (nI ((κ w).2.2.1)), .int (nI tn), .int (nI pz), .int k0, .int (nI s0), .int v0, .int ta, .int tk, .ref co, .int (nI cc), su, .int ec, .int es]))] [w] _ _ := hB.ms (by simp) (fa_c hb1370 fa_n)
  refine lp_m (α := Nat) (nL := 3) (fun a9 => 600 - a9) (fun a9 H9 l9 => (pz ≤ a9 ∧ a9 ≤ tn) ∧ (skp B a9 = skp B pz) ∧ (Bx B0 D H0 [(tx, .inl (cs 1, 600, .inl f)), (w, .inr (5, [.ref tx, .int (nI ((κ w).2.2.1)), .int (nI tn), .int (nI a9), .int k0, .int (nI s0), .int v0, .int ta, .int tk, .ref co, .int (nI cc), su, .int ec, .int es]))] [w] H9 l9)) (fun a9 => [(0, .ref w)]) ?_ pz _ _ _ ⟨(by show pz ≤ (pz) ∧ (pz) ≤ tn; omega), rfl, hB⟩ (lv_sub hl [0] rfl)
  rintro k1 H locs ls ih1372 ⟨hk1, hk, hB⟩ hl
  have hl : lv_has ls 3 [(0, .ref w)] := hl
  have hk1 : pz ≤ k1 ∧ k1 ≤ tn := hk1
  have hk : skp B k1 = skp B pz := hk
  have hB : Bx B0 D _ [(tx, .inl (cs 1, 600, .inl f)), (w, .inr (5, [.ref tx, .int (nI ((κ w).2.2.1)), .int (nI tn), .int (nI k1), .int k0, .int (nI s0), .int v0, .int ta, .int tk, .ref co, .int (nI cc), su, .int ec, .int es]))] [w] _ _ := hB
  refine lv_aload_n hx hb dX5_step_0 rfl (lv_at hl 0 rfl) ?_
  refine va_get (D := D) (ci := 5) (v := .int (nI k1)) (C := RX5) (T := TX5) (N := 14) hx hb hts iX5_step_5 hown hN.1 hB.1 1 rfl rfl 3 (by decide) (hts _ mX5_step_1) (fun _ h9 => h9) rfl dX5_step_1 ?_
  refine lv_aload_n hx hb dX5_step_4 rfl (lv_at hl 0 rfl) ?_
  refine va_get (D := D) (ci := 5) (v := .int (nI tn)) (C := RX5) (T := TX5) (N := 14) hx hb hts iX5_step_5 hown hN.1 hB.1 1 rfl rfl 2 (by decide) (hts _ mX5_step_2) (fun _ h9 => h9) rfl dX5_step_5 ?_
  refine lv_icmp_ge (tgt := 38) hx hb dX5_step_8 (by decide) (fun c1373 => ?_) (fun c1373 => ?_)
  · have c1373 : tn ≤ k1 := (nI_leI (a := tn) (b := k1) (by omega) (by omega)).mp c1373
    have hsk : skp B pz = k1 := hk.symm.trans (run_n (P := fun x => x = 32) (by rw [hY.end_ (k := k1) (by omega)]; decide))
    refine lv_aload_n hx hb dX5_step_38 rfl (lv_at hl 0 rfl) ?_
    refine lv_aload_n hx hb dX5_step_39 rfl (lv_at hl 0 rfl) ?_
    refine va_get (D := D) (ci := 5) (v := .int (nI k1)) (C := RX5) (T := TX5) (N := 14) hx hb hts iX5_step_5 hown hN.1 hB.1 1 rfl rfl 3 (by decide) (hts _ mX5_step_1) (fun _ h9 => h9) rfl dX5_step_40 ?_
    refine b_put (D := D) (ci := 5) (v := .int (nI k1)) (ty := .int) (C := RX5) (T := TX5) (N := 14) hx hb hts iX5_step_5 tyX5 tyX5_ok nmX5 hown hN hB 1 rfl rfl 5 (by decide) (hts _ mX5_step_4) (fun _ h9 => h9) rfl (by decide +kernel) rfl rfl (Nat.le_of_ble_eq_true rfl) (.inr ⟨rfl, List.mem_of_getElem? (i := 0) rfl⟩) dX5_step_43 (fun H locs hB => ?_)
    have hB : Bx B0 D _ [(tx, .inl (cs 1, 600, .inl f)), (w, .inr (5, [.ref tx, .int (nI ((κ w).2.2.1)), .int (nI tn), .int (nI k1), .int k0, .int (nI k1), .int v0, .int ta, .int tk, .ref co, .int (nI cc), su, .int ec, .int es]))] [w] _ _ := hB
    refine lv_aload_n hx hb dX5_step_46 rfl (lv_at hl 0 rfl) ?_
    refine lv_iconst (v := 0) hx hb dX5_step_47 (by decide) ?_
    refine b_put (D := D) (ci := 5) (v := .int 0) (ty := .int) (C := RX5) (T := TX5) (N := 14) hx hb hts iX5_step_5 tyX5 tyX5_ok nmX5 hown hN hB 1 rfl rfl 6 (by decide) (hts _ mX5_step_5) (fun _ h9 => h9) rfl (by decide +kernel) rfl rfl (Nat.le_of_ble_eq_true rfl) (.inr ⟨rfl, List.mem_of_getElem? (i := 0) rfl⟩) dX5_step_48 (fun H locs hB => ?_)
    have hB : Bx B0 D _ [(tx, .inl (cs 1, 600, .inl f)), (w, .inr (5, [.ref tx, .int (nI ((κ w).2.2.1)), .int (nI tn), .int (nI k1), .int k0, .int (nI k1), .int 0, .int ta, .int tk, .ref co, .int (nI cc), su, .int ec, .int es]))] [w] _ _ := hB
    refine lv_aload_n hx hb dX5_step_51 rfl (lv_at hl 0 rfl) ?_
    refine va_get (D := D) (ci := 5) (v := .int (nI k1)) (C := RX5) (T := TX5) (N := 14) hx hb hts iX5_step_5 hown hN.1 hB.1 1 rfl rfl 3 (by decide) (hts _ mX5_step_1) (fun _ h9 => h9) rfl dX5_step_52 ?_
    refine lv_aload_n hx hb dX5_step_55 rfl (lv_at hl 0 rfl) ?_
    refine va_get (D := D) (ci := 5) (v := .int (nI tn)) (C := RX5) (T := TX5) (N := 14) hx hb hts iX5_step_5 hown hN.1 hB.1 1 rfl rfl 2 (by decide) (hts _ mX5_step_2) (fun _ h9 => h9) rfl dX5_step_56 ?_
    refine lv_icmp_lt (tgt := 68) hx hb dX5_step_59 (by decide) (fun c1374 => ?_) (fun c1374 => ?_)
    · have c1374 : k1 < tn := (nI_ltI (a := k1) (b := tn) (by omega) (by omega)).mp c1374
      have hk1n : k1 < tn := by omega
      refine lv_aload_n hx hb dX5_step_68 rfl (lv_at hl 0 rfl) ?_
      refine va_get (D := D) (ci := 5) (v := .ref tx) (C := RX5) (T := TX5) (N := 14) hx hb hts iX5_step_5 hown hN.1 hB.1 1 rfl rfl 0 (by decide) (hts _ mX5_step_3) (fun _ h9 => h9) rfl dX5_step_69 ?_
      refine lv_aload_n hx hb dX5_step_72 rfl (lv_at hl 0 rfl) ?_
      refine va_get (D := D) (ci := 5) (v := .int (nI k1)) (C := RX5) (T := TX5) (N := 14) hx hb hts iX5_step_5 hown hN.1 hB.1 1 rfl rfl 3 (by decide) (hts _ mX5_step_1) (fun _ h9 => h9) rfl dX5_step_73 ?_
      refine ld_b (v := (f k1)) hx hb hN hB.1 0 rfl (vp_in_nI (n := k1) (N := 600) (by omega) (by omega)) (by rw [(show ((nI k1) : Int32).toNatClampNeg = k1 from nI_clamp (n := k1) (by omega))]) dX5_step_76 ?_
      refine lv_istore_n (lv' := [(1, .int (f k1)), (0, .ref w)]) hx hb dX5_step_77 rfl hl (by decide) rfl (fun ls hl => ?_)
      refine lv_iload_n hx hb dX5_step_78 rfl (lv_at hl 0 rfl) ?_
      refine lv_bipush (v := 48) hx hb dX5_step_79 (by decide) ?_
      refine lv_icmp_lt (tgt := 184) hx hb dX5_step_81 (by decide) (fun c1375 => ?_) (fun c1375 => ?_)
      · have hnd1 : ¬ isd (B k1) := fun g9 => ((hf.d hY hk1n).mpr g9).1 c1375
        refine lv_iload_n hx hb dX5_step_184 rfl (lv_at hl 0 rfl) ?_
        refine lv_bipush (v := 97) hx hb dX5_step_185 (by decide) ?_
        refine lv_icmp_lt (tgt := 253) hx hb dX5_step_187 (by decide) (fun c1376 => ?_) (fun c1376 => ?_)
        · have hnl1 : ¬ isl (B k1) := fun g9 => ((hf.l hY hk1n).mpr g9).1 c1376
          refine lv_aload_n hx hb dX5_step_253 rfl (lv_at hl 1 rfl) ?_
          refine lv_iconst (v := 3) hx hb dX5_step_254 (by decide) ?_
          refine b_put (D := D) (ci := 5) (v := .int 3) (ty := .int) (C := RX5) (T := TX5) (N := 14) hx hb hts iX5_step_5 tyX5 tyX5_ok nmX5 hown hN hB 1 rfl rfl 4 (by decide) (hts _ mX5_step_6) (fun _ h9 => h9) rfl (by decide +kernel) rfl rfl (Nat.le_of_ble_eq_true rfl) (.inr ⟨rfl, List.mem_of_getElem? (i := 0) rfl⟩) dX5_step_255 (fun H locs hB => ?_)
          have hB : Bx B0 D _ [(tx, .inl (cs 1, 600, .inl f)), (w, .inr (5, [.ref tx, .int (nI ((κ w).2.2.1)), .int (nI tn), .int (nI k1), .int 3, .int (nI k1), .int 0, .int ta, .int tk, .ref co, .int (nI cc), su, .int ec, .int es]))] [w] _ _ := hB
          refine lv_aload_n hx hb dX5_step_258 rfl (lv_at hl 1 rfl) ?_
          refine lv_iload_n hx hb dX5_step_259 rfl (lv_at hl 0 rfl) ?_
          refine b_put (D := D) (ci := 5) (v := .int (f k1)) (ty := .int) (C := RX5) (T := TX5) (N := 14) hx hb hts iX5_step_5 tyX5 tyX5_ok nmX5 hown hN hB 1 rfl rfl 6 (by decide) (hts _ mX5_step_5) (fun _ h9 => h9) rfl (by decide +kernel) rfl rfl (Nat.le_of_ble_eq_true rfl) (.inr ⟨rfl, List.mem_of_getElem? (i := 0) rfl⟩) dX5_step_260 (fun H locs hB => ?_)
          have hB : Bx B0 D _ [(tx, .inl (cs 1, 600, .inl f)), (w, .inr (5, [.ref tx, .int (nI ((κ w).2.2.1)), .int (nI tn), .int (nI k1), .int 3, .int (nI k1), .int (f k1), .int ta, .int tk, .ref co, .int (nI cc), su, .int ec, .int es]))] [w] _ _ := hB
          refine lv_aload_n hx hb dX5_step_263 rfl (lv_at hl 1 rfl) ?_
          refine lv_dup hx hb dX5_step_264 rfl ?_
          refine va_get (D := D) (ci := 5) (v := .int (nI k1)) (C := RX5) (T := TX5) (N := 14) hx hb hts iX5_step_5 hown hN.1 hB.1 1 rfl rfl 3 (by decide) (hts _ mX5_step_1) (fun _ h9 => h9) rfl dX5_step_265 ?_
          refine lv_iconst (v := 1) hx hb dX5_step_268 (by decide) ?_
          refine lv_iadd hx hb dX5_step_269 ?_
          refine tp_i (nI (k1 + 1)) (nI_add k1 1) ?_
          refine b_put (D := D) (ci := 5) (v := .int (nI (k1 + 1))) (ty := .int) (C := RX5) (T := TX5) (N := 14) hx hb hts iX5_step_5 tyX5 tyX5_ok nmX5 hown hN hB 1 rfl rfl 3 (by decide) (hts _ mX5_step_1) (fun _ h9 => h9) rfl (by decide +kernel) rfl rfl (Nat.le_of_ble_eq_true rfl) (.inr ⟨rfl, List.mem_of_getElem? (i := 0) rfl⟩) dX5_step_270 (fun H locs hB => ?_)
          have hB : Bx B0 D _ [(tx, .inl (cs 1, 600, .inl f)), (w, .inr (5, [.ref tx, .int (nI ((κ w).2.2.1)), .int (nI tn), .int (nI (k1 + 1)), .int 3, .int (nI k1), .int (f k1), .int ta, .int tk, .ref co, .int (nI cc), su, .int ec, .int es]))] [w] _ _ := hB
          have hT : WT B0 D cs T κ _ := hT.close hB ⟨⟨1, _, rfl, ok_6 hw.1 ⟨_, _, _, _, _, _, _, _, _, _, _, _, _, rfl, (by omega), (by omega), (by omega), (by omega), (by omega), t1370_0, t1370_9, c1370_11, c1370_p2⟩⟩, trivial⟩
          have hF : Fr B0 [10] κ H0 _ := hF.close hB (fa_c (by simp [hw.2]) fa_n)
          have hL : OkL B0 _ := hB.2.2.2.2.2
          have hP : va_P D vwCl [(tx, .inl (cs 1, 600, .inl f)), (w, .inr (5, [.ref tx, .int (nI ((κ w).2.2.1)), .int (nI tn), .int (nI (k1 + 1)), .int 3, .int (nI k1), .int (f k1), .int ta, .int tk, .ref co, .int (nI cc), su, .int ec, .int es]))] _ := hB.1
          have hkw : va_at D vwCl (w, .inr (5, [.ref tx, .int (nI ((κ w).2.2.1)), .int (nI tn), .int (nI (k1 + 1)), .int 3, .int (nI k1), .int (f k1), .int ta, .int tk, .ref co, .int (nI cc), su, .int ec, .int es])) _ := hP 1 _ rfl
          have hktx : va_at D vwCl (tx, .inl (cs 1, 600, .inl f)) _ := hP 0 _ rfl
          have hkco := hkco.kept (hB.2.2.2.1 _ hkco.lt (by simp only [List.mem_cons, List.not_mem_nil, or_false, not_or]; exact ne_c hco.1 hw.1 (by decide)))
          obtain ⟨g1, g2, g3⟩ := tk_m (hY.ne hk1n) hnd1 hnl1
          have g2 : tkV B k1 = f k1 := g2.trans (hf k1 hk1n).symm
          exact en_v hx hb hr hlocks hL (Nat.zero_le _) (Nat.zero_le _) dX5_step_273 (⟨hT, hF, by rw [hsk, g1, g2, g3]; exact ⟨hkw, hktx, hkco⟩⟩)
        · refine lv_iload_n hx hb dX5_step_190 rfl (lv_at hl 0 rfl) ?_
          refine lv_bipush (v := 122) hx hb dX5_step_191 (by decide) ?_
          refine lv_icmp_gt (tgt := 253) hx hb dX5_step_193 (by decide) (fun c1377 => ?_) (fun c1377 => ?_)
          · have hnl1 : ¬ isl (B k1) := fun g9 => ((hf.l hY hk1n).mpr g9).2 c1377
            refine lv_aload_n hx hb dX5_step_253 rfl (lv_at hl 1 rfl) ?_
            refine lv_iconst (v := 3) hx hb dX5_step_254 (by decide) ?_
            refine b_put (D := D) (ci := 5) (v := .int 3) (ty := .int) (C := RX5) (T := TX5) (N := 14) hx hb hts iX5_step_5 tyX5 tyX5_ok nmX5 hown hN hB 1 rfl rfl 4 (by decide) (hts _ mX5_step_6) (fun _ h9 => h9) rfl (by decide +kernel) rfl rfl (Nat.le_of_ble_eq_true rfl) (.inr ⟨rfl, List.mem_of_getElem? (i := 0) rfl⟩) dX5_step_255 (fun H locs hB => ?_)
            have hB : Bx B0 D _ [(tx, .inl (cs 1, 600, .inl f)), (w, .inr (5, [.ref tx, .int (nI ((κ w).2.2.1)), .int (nI tn), .int (nI k1), .int 3, .int (nI k1), .int 0, .int ta, .int tk, .ref co, .int (nI cc), su, .int ec, .int es]))] [w] _ _ := hB
            refine lv_aload_n hx hb dX5_step_258 rfl (lv_at hl 1 rfl) ?_
            refine lv_iload_n hx hb dX5_step_259 rfl (lv_at hl 0 rfl) ?_
            refine b_put (D := D) (ci := 5) (v := .int (f k1)) (ty := .int) (C := RX5) (T := TX5) (N := 14) hx hb hts iX5_step_5 tyX5 tyX5_ok nmX5 hown hN hB 1 rfl rfl 6 (by decide) (hts _ mX5_step_5) (fun _ h9 => h9) rfl (by decide +kernel) rfl rfl (Nat.le_of_ble_eq_true rfl) (.inr ⟨rfl, List.mem_of_getElem? (i := 0) rfl⟩) dX5_step_260 (fun H locs hB => ?_)
            have hB : Bx B0 D _ [(tx, .inl (cs 1, 600, .inl f)), (w, .inr (5, [.ref tx, .int (nI ((κ w).2.2.1)), .int (nI tn), .int (nI k1), .int 3, .int (nI k1), .int (f k1), .int ta, .int tk, .ref co, .int (nI cc), su, .int ec, .int es]))] [w] _ _ := hB
            refine lv_aload_n hx hb dX5_step_263 rfl (lv_at hl 1 rfl) ?_
            refine lv_dup hx hb dX5_step_264 rfl ?_
            refine va_get (D := D) (ci := 5) (v := .int (nI k1)) (C := RX5) (T := TX5) (N := 14) hx hb hts iX5_step_5 hown hN.1 hB.1 1 rfl rfl 3 (by decide) (hts _ mX5_step_1) (fun _ h9 => h9) rfl dX5_step_265 ?_
            refine lv_iconst (v := 1) hx hb dX5_step_268 (by decide) ?_
            refine lv_iadd hx hb dX5_step_269 ?_
            refine tp_i (nI (k1 + 1)) (nI_add k1 1) ?_
            refine b_put (D := D) (ci := 5) (v := .int (nI (k1 + 1))) (ty := .int) (C := RX5) (T := TX5) (N := 14) hx hb hts iX5_step_5 tyX5 tyX5_ok nmX5 hown hN hB 1 rfl rfl 3 (by decide) (hts _ mX5_step_1) (fun _ h9 => h9) rfl (by decide +kernel) rfl rfl (Nat.le_of_ble_eq_true rfl) (.inr ⟨rfl, List.mem_of_getElem? (i := 0) rfl⟩) dX5_step_270 (fun H locs hB => ?_)
            have hB : Bx B0 D _ [(tx, .inl (cs 1, 600, .inl f)), (w, .inr (5, [.ref tx, .int (nI ((κ w).2.2.1)), .int (nI tn), .int (nI (k1 + 1)), .int 3, .int (nI k1), .int (f k1), .int ta, .int tk, .ref co, .int (nI cc), su, .int ec, .int es]))] [w] _ _ := hB
            have hT : WT B0 D cs T κ _ := hT.close hB ⟨⟨1, _, rfl, ok_6 hw.1 ⟨_, _, _, _, _, _, _, _, _, _, _, _, _, rfl, (by omega), (by omega), (by omega), (by omega), (by omega), t1370_0, t1370_9, c1370_11, c1370_p2⟩⟩, trivial⟩
            have hF : Fr B0 [10] κ H0 _ := hF.close hB (fa_c (by simp [hw.2]) fa_n)
            have hL : OkL B0 _ := hB.2.2.2.2.2
            have hP : va_P D vwCl [(tx, .inl (cs 1, 600, .inl f)), (w, .inr (5, [.ref tx, .int (nI ((κ w).2.2.1)), .int (nI tn), .int (nI (k1 + 1)), .int 3, .int (nI k1), .int (f k1), .int ta, .int tk, .ref co, .int (nI cc), su, .int ec, .int es]))] _ := hB.1
            have hkw : va_at D vwCl (w, .inr (5, [.ref tx, .int (nI ((κ w).2.2.1)), .int (nI tn), .int (nI (k1 + 1)), .int 3, .int (nI k1), .int (f k1), .int ta, .int tk, .ref co, .int (nI cc), su, .int ec, .int es])) _ := hP 1 _ rfl
            have hktx : va_at D vwCl (tx, .inl (cs 1, 600, .inl f)) _ := hP 0 _ rfl
            have hkco := hkco.kept (hB.2.2.2.1 _ hkco.lt (by simp only [List.mem_cons, List.not_mem_nil, or_false, not_or]; exact ne_c hco.1 hw.1 (by decide)))
            obtain ⟨g1, g2, g3⟩ := tk_m (hY.ne hk1n) hnd1 hnl1
            have g2 : tkV B k1 = f k1 := g2.trans (hf k1 hk1n).symm
            exact en_v hx hb hr hlocks hL (Nat.zero_le _) (Nat.zero_le _) dX5_step_273 (⟨hT, hF, by rw [hsk, g1, g2, g3]; exact ⟨hkw, hktx, hkco⟩⟩)
          · have hl1 : isl (B k1) := (hf.l hY hk1n).mp ⟨c1376, c1377⟩
            refine lv_aload_n hx hb dX5_step_196 rfl (lv_at hl 1 rfl) ?_
            refine lv_iconst (v := 2) hx hb dX5_step_197 (by decide) ?_
            refine b_put (D := D) (ci := 5) (v := .int 2) (ty := .int) (C := RX5) (T := TX5) (N := 14) hx hb hts iX5_step_5 tyX5 tyX5_ok nmX5 hown hN hB 1 rfl rfl 4 (by decide) (hts _ mX5_step_6) (fun _ h9 => h9) rfl (by decide +kernel) rfl rfl (Nat.le_of_ble_eq_true rfl) (.inr ⟨rfl, List.mem_of_getElem? (i := 0) rfl⟩) dX5_step_198 (fun H locs hB => ?_)
            have hB : Bx B0 D _ [(tx, .inl (cs 1, 600, .inl f)), (w, .inr (5, [.ref tx, .int (nI ((κ w).2.2.1)), .int (nI tn), .int (nI k1), .int 2, .int (nI k1), .int 0, .int ta, .int tk, .ref co, .int (nI cc), su, .int ec, .int es]))] [w] _ _ := hB
            have hB : Bx B0 D _ [(tx, .inl (cs 1, 600, .inl f)), (w, .inr (5, [.ref tx, .int (nI ((κ w).2.2.1)), .int (nI tn), .int (nI k1), .int 2, .int (nI k1), .int 0, .int ta, .int tk, .ref co, .int (nI cc), su, .int ec, .int es]))] [w] _ _ := hB.ms (by simp) (fa_c hb1370 fa_n)
            refine lp_m (α := Nat) (nL := 3) (fun a9 => 600 - a9) (fun a9 H9 l9 => (k1 ≤ a9 ∧ a9 ≤ tn) ∧ (ltE B a9 = ltE B k1) ∧ (Bx B0 D H0 [(tx, .inl (cs 1, 600, .inl f)), (w, .inr (5, [.ref tx, .int (nI ((κ w).2.2.1)), .int (nI tn), .int (nI a9), .int 2, .int (nI k1), .int 0, .int ta, .int tk, .ref co, .int (nI cc), su, .int ec, .int es]))] [w] H9 l9)) (fun a9 => [(0, .ref w), (1, .int (f k1))]) ?_ k1 _ _ _ ⟨(by show k1 ≤ (k1) ∧ (k1) ≤ tn; omega), rfl, hB⟩ (lv_sub hl [1, 0] rfl)
            rintro k3 H locs ls ih1378 ⟨hk3, hl9, hB⟩ hl
            have hl : lv_has ls 3 [(0, .ref w), (1, .int (f k1))] := hl
            have hk3 : k1 ≤ k3 ∧ k3 ≤ tn := hk3
            have hl9 : ltE B k3 = ltE B k1 := hl9
            have hB : Bx B0 D _ [(tx, .inl (cs 1, 600, .inl f)), (w, .inr (5, [.ref tx, .int (nI ((κ w).2.2.1)), .int (nI tn), .int (nI k3), .int 2, .int (nI k1), .int 0, .int ta, .int tk, .ref co, .int (nI cc), su, .int ec, .int es]))] [w] _ _ := hB
            refine lv_aload_n hx hb dX5_step_201 rfl (lv_at hl 0 rfl) ?_
            refine va_get (D := D) (ci := 5) (v := .int (nI k3)) (C := RX5) (T := TX5) (N := 14) hx hb hts iX5_step_5 hown hN.1 hB.1 1 rfl rfl 3 (by decide) (hts _ mX5_step_1) (fun _ h9 => h9) rfl dX5_step_202 ?_
            refine lv_aload_n hx hb dX5_step_205 rfl (lv_at hl 0 rfl) ?_
            refine va_get (D := D) (ci := 5) (v := .int (nI tn)) (C := RX5) (T := TX5) (N := 14) hx hb hts iX5_step_5 hown hN.1 hB.1 1 rfl rfl 2 (by decide) (hts _ mX5_step_2) (fun _ h9 => h9) rfl dX5_step_206 ?_
            refine lv_icmp_ge (tgt := 273) hx hb dX5_step_209 (by decide) (fun c1379 => ?_) (fun c1379 => ?_)
            · have c1379 : tn ≤ k3 := (nI_leI (a := tn) (b := k3) (by omega) (by omega)).mp c1379
              have hnl : ¬ isl (B k3) := by rw [hY.end_ (k := k3) (by omega)]; decide
              have hl9 : k3 = ltE B k1 := (run_n (P := isl) hnl).symm.trans hl9
              have hT : WT B0 D cs T κ _ := hT.close hB ⟨⟨1, _, rfl, ok_6 hw.1 ⟨_, _, _, _, _, _, _, _, _, _, _, _, _, rfl, (by omega), (by omega), (by omega), (by omega), (by omega), t1370_0, t1370_9, c1370_11, c1370_p2⟩⟩, trivial⟩
              have hF : Fr B0 [10] κ H0 _ := hF.close hB (fa_c (by simp [hw.2]) fa_n)
              have hL : OkL B0 _ := hB.2.2.2.2.2
              have hP : va_P D vwCl [(tx, .inl (cs 1, 600, .inl f)), (w, .inr (5, [.ref tx, .int (nI ((κ w).2.2.1)), .int (nI tn), .int (nI k3), .int 2, .int (nI k1), .int 0, .int ta, .int tk, .ref co, .int (nI cc), su, .int ec, .int es]))] _ := hB.1
              have hkw : va_at D vwCl (w, .inr (5, [.ref tx, .int (nI ((κ w).2.2.1)), .int (nI tn), .int (nI k3), .int 2, .int (nI k1), .int 0, .int ta, .int tk, .ref co, .int (nI cc), su, .int ec, .int es])) _ := hP 1 _ rfl
              have hktx : va_at D vwCl (tx, .inl (cs 1, 600, .inl f)) _ := hP 0 _ rfl
              have hkco := hkco.kept (hB.2.2.2.1 _ hkco.lt (by simp only [List.mem_cons, List.not_mem_nil, or_false, not_or]; exact ne_c hco.1 hw.1 (by decide)))
              obtain ⟨g1, g2, g3⟩ := tk_l hl1
              have g3 : tkE B k1 = k3 := g3.trans hl9.symm
              exact en_v hx hb hr hlocks hL (Nat.zero_le _) (Nat.zero_le _) dX5_step_273 (⟨hT, hF, by rw [hsk, g1, g2, g3]; exact ⟨hkw, hktx, hkco⟩⟩)
            · have c1379 : ¬ tn ≤ k3 := fun h9 => c1379 ((nI_leI (a := tn) (b := k3) (by omega) (by omega)).mpr h9)
              refine lv_aload_n hx hb dX5_step_212 rfl (lv_at hl 0 rfl) ?_
              refine va_get (D := D) (ci := 5) (v := .ref tx) (C := RX5) (T := TX5) (N := 14) hx hb hts iX5_step_5 hown hN.1 hB.1 1 rfl rfl 0 (by decide) (hts _ mX5_step_3) (fun _ h9 => h9) rfl dX5_step_213 ?_
              refine lv_aload_n hx hb dX5_step_216 rfl (lv_at hl 0 rfl) ?_
              refine va_get (D := D) (ci := 5) (v := .int (nI k3)) (C := RX5) (T := TX5) (N := 14) hx hb hts iX5_step_5 hown hN.1 hB.1 1 rfl rfl 3 (by decide) (hts _ mX5_step_1) (fun _ h9 => h9) rfl dX5_step_217 ?_
              refine ld_b (v := (f k3)) hx hb hN hB.1 0 rfl (vp_in_nI (n := k3) (N := 600) (by omega) (by omega)) (by rw [(show ((nI k3) : Int32).toNatClampNeg = k3 from nI_clamp (n := k3) (by omega))]) dX5_step_220 ?_
              refine lv_bipush (v := 97) hx hb dX5_step_221 (by decide) ?_
              refine lv_icmp_lt (tgt := 273) hx hb dX5_step_223 (by decide) (fun c1380 => ?_) (fun c1380 => ?_)
              · have hnl : ¬ isl (B k3) := fun g9 => ((hf.l hY (by omega)).mpr g9).1 c1380
                have hl9 : k3 = ltE B k1 := (run_n (P := isl) hnl).symm.trans hl9
                have hT : WT B0 D cs T κ _ := hT.close hB ⟨⟨1, _, rfl, ok_6 hw.1 ⟨_, _, _, _, _, _, _, _, _, _, _, _, _, rfl, (by omega), (by omega), (by omega), (by omega), (by omega), t1370_0, t1370_9, c1370_11, c1370_p2⟩⟩, trivial⟩
                have hF : Fr B0 [10] κ H0 _ := hF.close hB (fa_c (by simp [hw.2]) fa_n)
                have hL : OkL B0 _ := hB.2.2.2.2.2
                have hP : va_P D vwCl [(tx, .inl (cs 1, 600, .inl f)), (w, .inr (5, [.ref tx, .int (nI ((κ w).2.2.1)), .int (nI tn), .int (nI k3), .int 2, .int (nI k1), .int 0, .int ta, .int tk, .ref co, .int (nI cc), su, .int ec, .int es]))] _ := hB.1
                have hkw : va_at D vwCl (w, .inr (5, [.ref tx, .int (nI ((κ w).2.2.1)), .int (nI tn), .int (nI k3), .int 2, .int (nI k1), .int 0, .int ta, .int tk, .ref co, .int (nI cc), su, .int ec, .int es])) _ := hP 1 _ rfl
                have hktx : va_at D vwCl (tx, .inl (cs 1, 600, .inl f)) _ := hP 0 _ rfl
                have hkco := hkco.kept (hB.2.2.2.1 _ hkco.lt (by simp only [List.mem_cons, List.not_mem_nil, or_false, not_or]; exact ne_c hco.1 hw.1 (by decide)))
                obtain ⟨g1, g2, g3⟩ := tk_l hl1
                have g3 : tkE B k1 = k3 := g3.trans hl9.symm
                exact en_v hx hb hr hlocks hL (Nat.zero_le _) (Nat.zero_le _) dX5_step_273 (⟨hT, hF, by rw [hsk, g1, g2, g3]; exact ⟨hkw, hktx, hkco⟩⟩)
              · refine lv_aload_n hx hb dX5_step_226 rfl (lv_at hl 0 rfl) ?_
                refine va_get (D := D) (ci := 5) (v := .ref tx) (C := RX5) (T := TX5) (N := 14) hx hb hts iX5_step_5 hown hN.1 hB.1 1 rfl rfl 0 (by decide) (hts _ mX5_step_3) (fun _ h9 => h9) rfl dX5_step_227 ?_
                refine lv_aload_n hx hb dX5_step_230 rfl (lv_at hl 0 rfl) ?_
                refine va_get (D := D) (ci := 5) (v := .int (nI k3)) (C := RX5) (T := TX5) (N := 14) hx hb hts iX5_step_5 hown hN.1 hB.1 1 rfl rfl 3 (by decide) (hts _ mX5_step_1) (fun _ h9 => h9) rfl dX5_step_231 ?_
                refine ld_b (v := (f k3)) hx hb hN hB.1 0 rfl (vp_in_nI (n := k3) (N := 600) (by omega) (by omega)) (by rw [(show ((nI k3) : Int32).toNatClampNeg = k3 from nI_clamp (n := k3) (by omega))]) dX5_step_234 ?_
                refine lv_bipush (v := 122) hx hb dX5_step_235 (by decide) ?_
                refine lv_icmp_gt (tgt := 273) hx hb dX5_step_237 (by decide) (fun c1381 => ?_) (fun c1381 => ?_)
                · have hnl : ¬ isl (B k3) := fun g9 => ((hf.l hY (by omega)).mpr g9).2 c1381
                  have hl9 : k3 = ltE B k1 := (run_n (P := isl) hnl).symm.trans hl9
                  have hT : WT B0 D cs T κ _ := hT.close hB ⟨⟨1, _, rfl, ok_6 hw.1 ⟨_, _, _, _, _, _, _, _, _, _, _, _, _, rfl, (by omega), (by omega), (by omega), (by omega), (by omega), t1370_0, t1370_9, c1370_11, c1370_p2⟩⟩, trivial⟩
                  have hF : Fr B0 [10] κ H0 _ := hF.close hB (fa_c (by simp [hw.2]) fa_n)
                  have hL : OkL B0 _ := hB.2.2.2.2.2
                  have hP : va_P D vwCl [(tx, .inl (cs 1, 600, .inl f)), (w, .inr (5, [.ref tx, .int (nI ((κ w).2.2.1)), .int (nI tn), .int (nI k3), .int 2, .int (nI k1), .int 0, .int ta, .int tk, .ref co, .int (nI cc), su, .int ec, .int es]))] _ := hB.1
                  have hkw : va_at D vwCl (w, .inr (5, [.ref tx, .int (nI ((κ w).2.2.1)), .int (nI tn), .int (nI k3), .int 2, .int (nI k1), .int 0, .int ta, .int tk, .ref co, .int (nI cc), su, .int ec, .int es])) _ := hP 1 _ rfl
                  have hktx : va_at D vwCl (tx, .inl (cs 1, 600, .inl f)) _ := hP 0 _ rfl
                  have hkco := hkco.kept (hB.2.2.2.1 _ hkco.lt (by simp only [List.mem_cons, List.not_mem_nil, or_false, not_or]; exact ne_c hco.1 hw.1 (by decide)))
                  obtain ⟨g1, g2, g3⟩ := tk_l hl1
                  have g3 : tkE B k1 = k3 := g3.trans hl9.symm
                  exact en_v hx hb hr hlocks hL (Nat.zero_le _) (Nat.zero_le _) dX5_step_273 (⟨hT, hF, by rw [hsk, g1, g2, g3]; exact ⟨hkw, hktx, hkco⟩⟩)
                · have hll : isl (B k3) := (hf.l hY (by omega)).mp ⟨c1380, c1381⟩
                  refine lv_aload_n hx hb dX5_step_240 rfl (lv_at hl 0 rfl) ?_
                  refine lv_dup hx hb dX5_step_241 rfl ?_
                  refine va_get (D := D) (ci := 5) (v := .int (nI k3)) (C := RX5) (T := TX5) (N := 14) hx hb hts iX5_step_5 hown hN.1 hB.1 1 rfl rfl 3 (by decide) (hts _ mX5_step_1) (fun _ h9 => h9) rfl dX5_step_242 ?_
                  refine lv_iconst (v := 1) hx hb dX5_step_245 (by decide) ?_
                  refine lv_iadd hx hb dX5_step_246 ?_
                  refine tp_i (nI (k3 + 1)) (nI_add k3 1) ?_
                  refine b_put (D := D) (ci := 5) (v := .int (nI (k3 + 1))) (ty := .int) (C := RX5) (T := TX5) (N := 14) hx hb hts iX5_step_5 tyX5 tyX5_ok nmX5 hown hN hB 1 rfl rfl 3 (by decide) (hts _ mX5_step_1) (fun _ h9 => h9) rfl (by decide +kernel) rfl rfl (Nat.le_of_ble_eq_true rfl) (.inr ⟨rfl, List.mem_of_getElem? (i := 0) rfl⟩) dX5_step_247 (fun H locs hB => ?_)
                  have hB : Bx B0 D _ [(tx, .inl (cs 1, 600, .inl f)), (w, .inr (5, [.ref tx, .int (nI ((κ w).2.2.1)), .int (nI tn), .int (nI (k3 + 1)), .int 2, .int (nI k1), .int 0, .int ta, .int tk, .ref co, .int (nI cc), su, .int ec, .int es]))] [w] _ _ := hB
                  refine lv_goto (tgt := 201) hx hb dX5_step_250 (by decide) ?_
                  exact ih1378 (k3 + 1) _ _ _ (by show 600 - ((k3 + 1)) < 600 - k3; omega) ⟨(by show k1 ≤ ((k3 + 1)) ∧ ((k3 + 1)) ≤ tn; omega), ((run_y (P := isl) hll (by omega)).symm.trans hl9), hB⟩ (lv_sub hl [0, 1] rfl)
      · refine lv_iload_n hx hb dX5_step_84 rfl (lv_at hl 0 rfl) ?_
        refine lv_bipush (v := 57) hx hb dX5_step_85 (by decide) ?_
        refine lv_icmp_gt (tgt := 184) hx hb dX5_step_87 (by decide) (fun c1382 => ?_) (fun c1382 => ?_)
        · have hnd1 : ¬ isd (B k1) := fun g9 => ((hf.d hY hk1n).mpr g9).2 c1382
          refine lv_iload_n hx hb dX5_step_184 rfl (lv_at hl 0 rfl) ?_
          refine lv_bipush (v := 97) hx hb dX5_step_185 (by decide) ?_
          refine lv_icmp_lt (tgt := 253) hx hb dX5_step_187 (by decide) (fun c1383 => ?_) (fun c1383 => ?_)
          · have hnl1 : ¬ isl (B k1) := fun g9 => ((hf.l hY hk1n).mpr g9).1 c1383
            refine lv_aload_n hx hb dX5_step_253 rfl (lv_at hl 1 rfl) ?_
            refine lv_iconst (v := 3) hx hb dX5_step_254 (by decide) ?_
            refine b_put (D := D) (ci := 5) (v := .int 3) (ty := .int) (C := RX5) (T := TX5) (N := 14) hx hb hts iX5_step_5 tyX5 tyX5_ok nmX5 hown hN hB 1 rfl rfl 4 (by decide) (hts _ mX5_step_6) (fun _ h9 => h9) rfl (by decide +kernel) rfl rfl (Nat.le_of_ble_eq_true rfl) (.inr ⟨rfl, List.mem_of_getElem? (i := 0) rfl⟩) dX5_step_255 (fun H locs hB => ?_)
            have hB : Bx B0 D _ [(tx, .inl (cs 1, 600, .inl f)), (w, .inr (5, [.ref tx, .int (nI ((κ w).2.2.1)), .int (nI tn), .int (nI k1), .int 3, .int (nI k1), .int 0, .int ta, .int tk, .ref co, .int (nI cc), su, .int ec, .int es]))] [w] _ _ := hB
            refine lv_aload_n hx hb dX5_step_258 rfl (lv_at hl 1 rfl) ?_
            refine lv_iload_n hx hb dX5_step_259 rfl (lv_at hl 0 rfl) ?_
            refine b_put (D := D) (ci := 5) (v := .int (f k1)) (ty := .int) (C := RX5) (T := TX5) (N := 14) hx hb hts iX5_step_5 tyX5 tyX5_ok nmX5 hown hN hB 1 rfl rfl 6 (by decide) (hts _ mX5_step_5) (fun _ h9 => h9) rfl (by decide +kernel) rfl rfl (Nat.le_of_ble_eq_true rfl) (.inr ⟨rfl, List.mem_of_getElem? (i := 0) rfl⟩) dX5_step_260 (fun H locs hB => ?_)
            have hB : Bx B0 D _ [(tx, .inl (cs 1, 600, .inl f)), (w, .inr (5, [.ref tx, .int (nI ((κ w).2.2.1)), .int (nI tn), .int (nI k1), .int 3, .int (nI k1), .int (f k1), .int ta, .int tk, .ref co, .int (nI cc), su, .int ec, .int es]))] [w] _ _ := hB
            refine lv_aload_n hx hb dX5_step_263 rfl (lv_at hl 1 rfl) ?_
            refine lv_dup hx hb dX5_step_264 rfl ?_
            refine va_get (D := D) (ci := 5) (v := .int (nI k1)) (C := RX5) (T := TX5) (N := 14) hx hb hts iX5_step_5 hown hN.1 hB.1 1 rfl rfl 3 (by decide) (hts _ mX5_step_1) (fun _ h9 => h9) rfl dX5_step_265 ?_
            refine lv_iconst (v := 1) hx hb dX5_step_268 (by decide) ?_
            refine lv_iadd hx hb dX5_step_269 ?_
            refine tp_i (nI (k1 + 1)) (nI_add k1 1) ?_
            refine b_put (D := D) (ci := 5) (v := .int (nI (k1 + 1))) (ty := .int) (C := RX5) (T := TX5) (N := 14) hx hb hts iX5_step_5 tyX5 tyX5_ok nmX5 hown hN hB 1 rfl rfl 3 (by decide) (hts _ mX5_step_1) (fun _ h9 => h9) rfl (by decide +kernel) rfl rfl (Nat.le_of_ble_eq_true rfl) (.inr ⟨rfl, List.mem_of_getElem? (i := 0) rfl⟩) dX5_step_270 (fun H locs hB => ?_)
            have hB : Bx B0 D _ [(tx, .inl (cs 1, 600, .inl f)), (w, .inr (5, [.ref tx, .int (nI ((κ w).2.2.1)), .int (nI tn), .int (nI (k1 + 1)), .int 3, .int (nI k1), .int (f k1), .int ta, .int tk, .ref co, .int (nI cc), su, .int ec, .int es]))] [w] _ _ := hB
            have hT : WT B0 D cs T κ _ := hT.close hB ⟨⟨1, _, rfl, ok_6 hw.1 ⟨_, _, _, _, _, _, _, _, _, _, _, _, _, rfl, (by omega), (by omega), (by omega), (by omega), (by omega), t1370_0, t1370_9, c1370_11, c1370_p2⟩⟩, trivial⟩
            have hF : Fr B0 [10] κ H0 _ := hF.close hB (fa_c (by simp [hw.2]) fa_n)
            have hL : OkL B0 _ := hB.2.2.2.2.2
            have hP : va_P D vwCl [(tx, .inl (cs 1, 600, .inl f)), (w, .inr (5, [.ref tx, .int (nI ((κ w).2.2.1)), .int (nI tn), .int (nI (k1 + 1)), .int 3, .int (nI k1), .int (f k1), .int ta, .int tk, .ref co, .int (nI cc), su, .int ec, .int es]))] _ := hB.1
            have hkw : va_at D vwCl (w, .inr (5, [.ref tx, .int (nI ((κ w).2.2.1)), .int (nI tn), .int (nI (k1 + 1)), .int 3, .int (nI k1), .int (f k1), .int ta, .int tk, .ref co, .int (nI cc), su, .int ec, .int es])) _ := hP 1 _ rfl
            have hktx : va_at D vwCl (tx, .inl (cs 1, 600, .inl f)) _ := hP 0 _ rfl
            have hkco := hkco.kept (hB.2.2.2.1 _ hkco.lt (by simp only [List.mem_cons, List.not_mem_nil, or_false, not_or]; exact ne_c hco.1 hw.1 (by decide)))
            obtain ⟨g1, g2, g3⟩ := tk_m (hY.ne hk1n) hnd1 hnl1
            have g2 : tkV B k1 = f k1 := g2.trans (hf k1 hk1n).symm
            exact en_v hx hb hr hlocks hL (Nat.zero_le _) (Nat.zero_le _) dX5_step_273 (⟨hT, hF, by rw [hsk, g1, g2, g3]; exact ⟨hkw, hktx, hkco⟩⟩)
          · refine lv_iload_n hx hb dX5_step_190 rfl (lv_at hl 0 rfl) ?_
            refine lv_bipush (v := 122) hx hb dX5_step_191 (by decide) ?_
            refine lv_icmp_gt (tgt := 253) hx hb dX5_step_193 (by decide) (fun c1384 => ?_) (fun c1384 => ?_)
            · have hnl1 : ¬ isl (B k1) := fun g9 => ((hf.l hY hk1n).mpr g9).2 c1384
              refine lv_aload_n hx hb dX5_step_253 rfl (lv_at hl 1 rfl) ?_
              refine lv_iconst (v := 3) hx hb dX5_step_254 (by decide) ?_
              refine b_put (D := D) (ci := 5) (v := .int 3) (ty := .int) (C := RX5) (T := TX5) (N := 14) hx hb hts iX5_step_5 tyX5 tyX5_ok nmX5 hown hN hB 1 rfl rfl 4 (by decide) (hts _ mX5_step_6) (fun _ h9 => h9) rfl (by decide +kernel) rfl rfl (Nat.le_of_ble_eq_true rfl) (.inr ⟨rfl, List.mem_of_getElem? (i := 0) rfl⟩) dX5_step_255 (fun H locs hB => ?_)
              have hB : Bx B0 D _ [(tx, .inl (cs 1, 600, .inl f)), (w, .inr (5, [.ref tx, .int (nI ((κ w).2.2.1)), .int (nI tn), .int (nI k1), .int 3, .int (nI k1), .int 0, .int ta, .int tk, .ref co, .int (nI cc), su, .int ec, .int es]))] [w] _ _ := hB
              refine lv_aload_n hx hb dX5_step_258 rfl (lv_at hl 1 rfl) ?_
              refine lv_iload_n hx hb dX5_step_259 rfl (lv_at hl 0 rfl) ?_
              refine b_put (D := D) (ci := 5) (v := .int (f k1)) (ty := .int) (C := RX5) (T := TX5) (N := 14) hx hb hts iX5_step_5 tyX5 tyX5_ok nmX5 hown hN hB 1 rfl rfl 6 (by decide) (hts _ mX5_step_5) (fun _ h9 => h9) rfl (by decide +kernel) rfl rfl (Nat.le_of_ble_eq_true rfl) (.inr ⟨rfl, List.mem_of_getElem? (i := 0) rfl⟩) dX5_step_260 (fun H locs hB => ?_)
              have hB : Bx B0 D _ [(tx, .inl (cs 1, 600, .inl f)), (w, .inr (5, [.ref tx, .int (nI ((κ w).2.2.1)), .int (nI tn), .int (nI k1), .int 3, .int (nI k1), .int (f k1), .int ta, .int tk, .ref co, .int (nI cc), su, .int ec, .int es]))] [w] _ _ := hB
              refine lv_aload_n hx hb dX5_step_263 rfl (lv_at hl 1 rfl) ?_
              refine lv_dup hx hb dX5_step_264 rfl ?_
              refine va_get (D := D) (ci := 5) (v := .int (nI k1)) (C := RX5) (T := TX5) (N := 14) hx hb hts iX5_step_5 hown hN.1 hB.1 1 rfl rfl 3 (by decide) (hts _ mX5_step_1) (fun _ h9 => h9) rfl dX5_step_265 ?_
              refine lv_iconst (v := 1) hx hb dX5_step_268 (by decide) ?_
              refine lv_iadd hx hb dX5_step_269 ?_
              refine tp_i (nI (k1 + 1)) (nI_add k1 1) ?_
              refine b_put (D := D) (ci := 5) (v := .int (nI (k1 + 1))) (ty := .int) (C := RX5) (T := TX5) (N := 14) hx hb hts iX5_step_5 tyX5 tyX5_ok nmX5 hown hN hB 1 rfl rfl 3 (by decide) (hts _ mX5_step_1) (fun _ h9 => h9) rfl (by decide +kernel) rfl rfl (Nat.le_of_ble_eq_true rfl) (.inr ⟨rfl, List.mem_of_getElem? (i := 0) rfl⟩) dX5_step_270 (fun H locs hB => ?_)
              have hB : Bx B0 D _ [(tx, .inl (cs 1, 600, .inl f)), (w, .inr (5, [.ref tx, .int (nI ((κ w).2.2.1)), .int (nI tn), .int (nI (k1 + 1)), .int 3, .int (nI k1), .int (f k1), .int ta, .int tk, .ref co, .int (nI cc), su, .int ec, .int es]))] [w] _ _ := hB
              have hT : WT B0 D cs T κ _ := hT.close hB ⟨⟨1, _, rfl, ok_6 hw.1 ⟨_, _, _, _, _, _, _, _, _, _, _, _, _, rfl, (by omega), (by omega), (by omega), (by omega), (by omega), t1370_0, t1370_9, c1370_11, c1370_p2⟩⟩, trivial⟩
              have hF : Fr B0 [10] κ H0 _ := hF.close hB (fa_c (by simp [hw.2]) fa_n)
              have hL : OkL B0 _ := hB.2.2.2.2.2
              have hP : va_P D vwCl [(tx, .inl (cs 1, 600, .inl f)), (w, .inr (5, [.ref tx, .int (nI ((κ w).2.2.1)), .int (nI tn), .int (nI (k1 + 1)), .int 3, .int (nI k1), .int (f k1), .int ta, .int tk, .ref co, .int (nI cc), su, .int ec, .int es]))] _ := hB.1
              have hkw : va_at D vwCl (w, .inr (5, [.ref tx, .int (nI ((κ w).2.2.1)), .int (nI tn), .int (nI (k1 + 1)), .int 3, .int (nI k1), .int (f k1), .int ta, .int tk, .ref co, .int (nI cc), su, .int ec, .int es])) _ := hP 1 _ rfl
              have hktx : va_at D vwCl (tx, .inl (cs 1, 600, .inl f)) _ := hP 0 _ rfl
              have hkco := hkco.kept (hB.2.2.2.1 _ hkco.lt (by simp only [List.mem_cons, List.not_mem_nil, or_false, not_or]; exact ne_c hco.1 hw.1 (by decide)))
              obtain ⟨g1, g2, g3⟩ := tk_m (hY.ne hk1n) hnd1 hnl1
              have g2 : tkV B k1 = f k1 := g2.trans (hf k1 hk1n).symm
              exact en_v hx hb hr hlocks hL (Nat.zero_le _) (Nat.zero_le _) dX5_step_273 (⟨hT, hF, by rw [hsk, g1, g2, g3]; exact ⟨hkw, hktx, hkco⟩⟩)
            · have hl1 : isl (B k1) := (hf.l hY hk1n).mp ⟨c1383, c1384⟩
              refine lv_aload_n hx hb dX5_step_196 rfl (lv_at hl 1 rfl) ?_
              refine lv_iconst (v := 2) hx hb dX5_step_197 (by decide) ?_
              refine b_put (D := D) (ci := 5) (v := .int 2) (ty := .int) (C := RX5) (T := TX5) (N := 14) hx hb hts iX5_step_5 tyX5 tyX5_ok nmX5 hown hN hB 1 rfl rfl 4 (by decide) (hts _ mX5_step_6) (fun _ h9 => h9) rfl (by decide +kernel) rfl rfl (Nat.le_of_ble_eq_true rfl) (.inr ⟨rfl, List.mem_of_getElem? (i := 0) rfl⟩) dX5_step_198 (fun H locs hB => ?_)
              have hB : Bx B0 D _ [(tx, .inl (cs 1, 600, .inl f)), (w, .inr (5, [.ref tx, .int (nI ((κ w).2.2.1)), .int (nI tn), .int (nI k1), .int 2, .int (nI k1), .int 0, .int ta, .int tk, .ref co, .int (nI cc), su, .int ec, .int es]))] [w] _ _ := hB
              have hB : Bx B0 D _ [(tx, .inl (cs 1, 600, .inl f)), (w, .inr (5, [.ref tx, .int (nI ((κ w).2.2.1)), .int (nI tn), .int (nI k1), .int 2, .int (nI k1), .int 0, .int ta, .int tk, .ref co, .int (nI cc), su, .int ec, .int es]))] [w] _ _ := hB.ms (by simp) (fa_c hb1370 fa_n)
              refine lp_m (α := Nat) (nL := 3) (fun a9 => 600 - a9) (fun a9 H9 l9 => (k1 ≤ a9 ∧ a9 ≤ tn) ∧ (ltE B a9 = ltE B k1) ∧ (Bx B0 D H0 [(tx, .inl (cs 1, 600, .inl f)), (w, .inr (5, [.ref tx, .int (nI ((κ w).2.2.1)), .int (nI tn), .int (nI a9), .int 2, .int (nI k1), .int 0, .int ta, .int tk, .ref co, .int (nI cc), su, .int ec, .int es]))] [w] H9 l9)) (fun a9 => [(0, .ref w), (1, .int (f k1))]) ?_ k1 _ _ _ ⟨(by show k1 ≤ (k1) ∧ (k1) ≤ tn; omega), rfl, hB⟩ (lv_sub hl [1, 0] rfl)
              rintro k3 H locs ls ih1385 ⟨hk3, hl9, hB⟩ hl
              have hl : lv_has ls 3 [(0, .ref w), (1, .int (f k1))] := hl
              have hk3 : k1 ≤ k3 ∧ k3 ≤ tn := hk3
              have hl9 : ltE B k3 = ltE B k1 := hl9
              have hB : Bx B0 D _ [(tx, .inl (cs 1, 600, .inl f)), (w, .inr (5, [.ref tx, .int (nI ((κ w).2.2.1)), .int (nI tn), .int (nI k3), .int 2, .int (nI k1), .int 0, .int ta, .int tk, .ref co, .int (nI cc), su, .int ec, .int es]))] [w] _ _ := hB
              refine lv_aload_n hx hb dX5_step_201 rfl (lv_at hl 0 rfl) ?_
              refine va_get (D := D) (ci := 5) (v := .int (nI k3)) (C := RX5) (T := TX5) (N := 14) hx hb hts iX5_step_5 hown hN.1 hB.1 1 rfl rfl 3 (by decide) (hts _ mX5_step_1) (fun _ h9 => h9) rfl dX5_step_202 ?_
              refine lv_aload_n hx hb dX5_step_205 rfl (lv_at hl 0 rfl) ?_
              refine va_get (D := D) (ci := 5) (v := .int (nI tn)) (C := RX5) (T := TX5) (N := 14) hx hb hts iX5_step_5 hown hN.1 hB.1 1 rfl rfl 2 (by decide) (hts _ mX5_step_2) (fun _ h9 => h9) rfl dX5_step_206 ?_
              refine lv_icmp_ge (tgt := 273) hx hb dX5_step_209 (by decide) (fun c1386 => ?_) (fun c1386 => ?_)
              · have c1386 : tn ≤ k3 := (nI_leI (a := tn) (b := k3) (by omega) (by omega)).mp c1386
                have hnl : ¬ isl (B k3) := by rw [hY.end_ (k := k3) (by omega)]; decide
                have hl9 : k3 = ltE B k1 := (run_n (P := isl) hnl).symm.trans hl9
                have hT : WT B0 D cs T κ _ := hT.close hB ⟨⟨1, _, rfl, ok_6 hw.1 ⟨_, _, _, _, _, _, _, _, _, _, _, _, _, rfl, (by omega), (by omega), (by omega), (by omega), (by omega), t1370_0, t1370_9, c1370_11, c1370_p2⟩⟩, trivial⟩
                have hF : Fr B0 [10] κ H0 _ := hF.close hB (fa_c (by simp [hw.2]) fa_n)
                have hL : OkL B0 _ := hB.2.2.2.2.2
                have hP : va_P D vwCl [(tx, .inl (cs 1, 600, .inl f)), (w, .inr (5, [.ref tx, .int (nI ((κ w).2.2.1)), .int (nI tn), .int (nI k3), .int 2, .int (nI k1), .int 0, .int ta, .int tk, .ref co, .int (nI cc), su, .int ec, .int es]))] _ := hB.1
                have hkw : va_at D vwCl (w, .inr (5, [.ref tx, .int (nI ((κ w).2.2.1)), .int (nI tn), .int (nI k3), .int 2, .int (nI k1), .int 0, .int ta, .int tk, .ref co, .int (nI cc), su, .int ec, .int es])) _ := hP 1 _ rfl
                have hktx : va_at D vwCl (tx, .inl (cs 1, 600, .inl f)) _ := hP 0 _ rfl
                have hkco := hkco.kept (hB.2.2.2.1 _ hkco.lt (by simp only [List.mem_cons, List.not_mem_nil, or_false, not_or]; exact ne_c hco.1 hw.1 (by decide)))
                obtain ⟨g1, g2, g3⟩ := tk_l hl1
                have g3 : tkE B k1 = k3 := g3.trans hl9.symm
                exact en_v hx hb hr hlocks hL (Nat.zero_le _) (Nat.zero_le _) dX5_step_273 (⟨hT, hF, by rw [hsk, g1, g2, g3]; exact ⟨hkw, hktx, hkco⟩⟩)
              · have c1386 : ¬ tn ≤ k3 := fun h9 => c1386 ((nI_leI (a := tn) (b := k3) (by omega) (by omega)).mpr h9)
                refine lv_aload_n hx hb dX5_step_212 rfl (lv_at hl 0 rfl) ?_
                refine va_get (D := D) (ci := 5) (v := .ref tx) (C := RX5) (T := TX5) (N := 14) hx hb hts iX5_step_5 hown hN.1 hB.1 1 rfl rfl 0 (by decide) (hts _ mX5_step_3) (fun _ h9 => h9) rfl dX5_step_213 ?_
                refine lv_aload_n hx hb dX5_step_216 rfl (lv_at hl 0 rfl) ?_
                refine va_get (D := D) (ci := 5) (v := .int (nI k3)) (C := RX5) (T := TX5) (N := 14) hx hb hts iX5_step_5 hown hN.1 hB.1 1 rfl rfl 3 (by decide) (hts _ mX5_step_1) (fun _ h9 => h9) rfl dX5_step_217 ?_
                refine ld_b (v := (f k3)) hx hb hN hB.1 0 rfl (vp_in_nI (n := k3) (N := 600) (by omega) (by omega)) (by rw [(show ((nI k3) : Int32).toNatClampNeg = k3 from nI_clamp (n := k3) (by omega))]) dX5_step_220 ?_
                refine lv_bipush (v := 97) hx hb dX5_step_221 (by decide) ?_
                refine lv_icmp_lt (tgt := 273) hx hb dX5_step_223 (by decide) (fun c1387 => ?_) (fun c1387 => ?_)
                · have hnl : ¬ isl (B k3) := fun g9 => ((hf.l hY (by omega)).mpr g9).1 c1387
                  have hl9 : k3 = ltE B k1 := (run_n (P := isl) hnl).symm.trans hl9
                  have hT : WT B0 D cs T κ _ := hT.close hB ⟨⟨1, _, rfl, ok_6 hw.1 ⟨_, _, _, _, _, _, _, _, _, _, _, _, _, rfl, (by omega), (by omega), (by omega), (by omega), (by omega), t1370_0, t1370_9, c1370_11, c1370_p2⟩⟩, trivial⟩
                  have hF : Fr B0 [10] κ H0 _ := hF.close hB (fa_c (by simp [hw.2]) fa_n)
                  have hL : OkL B0 _ := hB.2.2.2.2.2
                  have hP : va_P D vwCl [(tx, .inl (cs 1, 600, .inl f)), (w, .inr (5, [.ref tx, .int (nI ((κ w).2.2.1)), .int (nI tn), .int (nI k3), .int 2, .int (nI k1), .int 0, .int ta, .int tk, .ref co, .int (nI cc), su, .int ec, .int es]))] _ := hB.1
                  have hkw : va_at D vwCl (w, .inr (5, [.ref tx, .int (nI ((κ w).2.2.1)), .int (nI tn), .int (nI k3), .int 2, .int (nI k1), .int 0, .int ta, .int tk, .ref co, .int (nI cc), su, .int ec, .int es])) _ := hP 1 _ rfl
                  have hktx : va_at D vwCl (tx, .inl (cs 1, 600, .inl f)) _ := hP 0 _ rfl
                  have hkco := hkco.kept (hB.2.2.2.1 _ hkco.lt (by simp only [List.mem_cons, List.not_mem_nil, or_false, not_or]; exact ne_c hco.1 hw.1 (by decide)))
                  obtain ⟨g1, g2, g3⟩ := tk_l hl1
                  have g3 : tkE B k1 = k3 := g3.trans hl9.symm
                  exact en_v hx hb hr hlocks hL (Nat.zero_le _) (Nat.zero_le _) dX5_step_273 (⟨hT, hF, by rw [hsk, g1, g2, g3]; exact ⟨hkw, hktx, hkco⟩⟩)
                · refine lv_aload_n hx hb dX5_step_226 rfl (lv_at hl 0 rfl) ?_
                  refine va_get (D := D) (ci := 5) (v := .ref tx) (C := RX5) (T := TX5) (N := 14) hx hb hts iX5_step_5 hown hN.1 hB.1 1 rfl rfl 0 (by decide) (hts _ mX5_step_3) (fun _ h9 => h9) rfl dX5_step_227 ?_
                  refine lv_aload_n hx hb dX5_step_230 rfl (lv_at hl 0 rfl) ?_
                  refine va_get (D := D) (ci := 5) (v := .int (nI k3)) (C := RX5) (T := TX5) (N := 14) hx hb hts iX5_step_5 hown hN.1 hB.1 1 rfl rfl 3 (by decide) (hts _ mX5_step_1) (fun _ h9 => h9) rfl dX5_step_231 ?_
                  refine ld_b (v := (f k3)) hx hb hN hB.1 0 rfl (vp_in_nI (n := k3) (N := 600) (by omega) (by omega)) (by rw [(show ((nI k3) : Int32).toNatClampNeg = k3 from nI_clamp (n := k3) (by omega))]) dX5_step_234 ?_
                  refine lv_bipush (v := 122) hx hb dX5_step_235 (by decide) ?_
                  refine lv_icmp_gt (tgt := 273) hx hb dX5_step_237 (by decide) (fun c1388 => ?_) (fun c1388 => ?_)
                  · have hnl : ¬ isl (B k3) := fun g9 => ((hf.l hY (by omega)).mpr g9).2 c1388
                    have hl9 : k3 = ltE B k1 := (run_n (P := isl) hnl).symm.trans hl9
                    have hT : WT B0 D cs T κ _ := hT.close hB ⟨⟨1, _, rfl, ok_6 hw.1 ⟨_, _, _, _, _, _, _, _, _, _, _, _, _, rfl, (by omega), (by omega), (by omega), (by omega), (by omega), t1370_0, t1370_9, c1370_11, c1370_p2⟩⟩, trivial⟩
                    have hF : Fr B0 [10] κ H0 _ := hF.close hB (fa_c (by simp [hw.2]) fa_n)
                    have hL : OkL B0 _ := hB.2.2.2.2.2
                    have hP : va_P D vwCl [(tx, .inl (cs 1, 600, .inl f)), (w, .inr (5, [.ref tx, .int (nI ((κ w).2.2.1)), .int (nI tn), .int (nI k3), .int 2, .int (nI k1), .int 0, .int ta, .int tk, .ref co, .int (nI cc), su, .int ec, .int es]))] _ := hB.1
                    have hkw : va_at D vwCl (w, .inr (5, [.ref tx, .int (nI ((κ w).2.2.1)), .int (nI tn), .int (nI k3), .int 2, .int (nI k1), .int 0, .int ta, .int tk, .ref co, .int (nI cc), su, .int ec, .int es])) _ := hP 1 _ rfl
                    have hktx : va_at D vwCl (tx, .inl (cs 1, 600, .inl f)) _ := hP 0 _ rfl
                    have hkco := hkco.kept (hB.2.2.2.1 _ hkco.lt (by simp only [List.mem_cons, List.not_mem_nil, or_false, not_or]; exact ne_c hco.1 hw.1 (by decide)))
                    obtain ⟨g1, g2, g3⟩ := tk_l hl1
                    have g3 : tkE B k1 = k3 := g3.trans hl9.symm
                    exact en_v hx hb hr hlocks hL (Nat.zero_le _) (Nat.zero_le _) dX5_step_273 (⟨hT, hF, by rw [hsk, g1, g2, g3]; exact ⟨hkw, hktx, hkco⟩⟩)
                  · have hll : isl (B k3) := (hf.l hY (by omega)).mp ⟨c1387, c1388⟩
                    refine lv_aload_n hx hb dX5_step_240 rfl (lv_at hl 0 rfl) ?_
                    refine lv_dup hx hb dX5_step_241 rfl ?_
                    refine va_get (D := D) (ci := 5) (v := .int (nI k3)) (C := RX5) (T := TX5) (N := 14) hx hb hts iX5_step_5 hown hN.1 hB.1 1 rfl rfl 3 (by decide) (hts _ mX5_step_1) (fun _ h9 => h9) rfl dX5_step_242 ?_
                    refine lv_iconst (v := 1) hx hb dX5_step_245 (by decide) ?_
                    refine lv_iadd hx hb dX5_step_246 ?_
                    refine tp_i (nI (k3 + 1)) (nI_add k3 1) ?_
                    refine b_put (D := D) (ci := 5) (v := .int (nI (k3 + 1))) (ty := .int) (C := RX5) (T := TX5) (N := 14) hx hb hts iX5_step_5 tyX5 tyX5_ok nmX5 hown hN hB 1 rfl rfl 3 (by decide) (hts _ mX5_step_1) (fun _ h9 => h9) rfl (by decide +kernel) rfl rfl (Nat.le_of_ble_eq_true rfl) (.inr ⟨rfl, List.mem_of_getElem? (i := 0) rfl⟩) dX5_step_247 (fun H locs hB => ?_)
                    have hB : Bx B0 D _ [(tx, .inl (cs 1, 600, .inl f)), (w, .inr (5, [.ref tx, .int (nI ((κ w).2.2.1)), .int (nI tn), .int (nI (k3 + 1)), .int 2, .int (nI k1), .int 0, .int ta, .int tk, .ref co, .int (nI cc), su, .int ec, .int es]))] [w] _ _ := hB
                    refine lv_goto (tgt := 201) hx hb dX5_step_250 (by decide) ?_
                    exact ih1385 (k3 + 1) _ _ _ (by show 600 - ((k3 + 1)) < 600 - k3; omega) ⟨(by show k1 ≤ ((k3 + 1)) ∧ ((k3 + 1)) ≤ tn; omega), ((run_y (P := isl) hll (by omega)).symm.trans hl9), hB⟩ (lv_sub hl [0, 1] rfl)
        · have hd1 : isd (B k1) := (hf.d hY hk1n).mp ⟨c1375, c1382⟩
          refine lv_aload_n hx hb dX5_step_90 rfl (lv_at hl 1 rfl) ?_
          refine lv_iconst (v := 1) hx hb dX5_step_91 (by decide) ?_
          refine b_put (D := D) (ci := 5) (v := .int 1) (ty := .int) (C := RX5) (T := TX5) (N := 14) hx hb hts iX5_step_5 tyX5 tyX5_ok nmX5 hown hN hB 1 rfl rfl 4 (by decide) (hts _ mX5_step_6) (fun _ h9 => h9) rfl (by decide +kernel) rfl rfl (Nat.le_of_ble_eq_true rfl) (.inr ⟨rfl, List.mem_of_getElem? (i := 0) rfl⟩) dX5_step_92 (fun H locs hB => ?_)
          have hB : Bx B0 D _ [(tx, .inl (cs 1, 600, .inl f)), (w, .inr (5, [.ref tx, .int (nI ((κ w).2.2.1)), .int (nI tn), .int (nI k1), .int 1, .int (nI k1), .int 0, .int ta, .int tk, .ref co, .int (nI cc), su, .int ec, .int es]))] [w] _ _ := hB
          have hB : Bx B0 D _ [(tx, .inl (cs 1, 600, .inl f)), (w, .inr (5, [.ref tx, .int (nI ((κ w).2.2.1)), .int (nI tn), .int (nI k1), .int 1, .int (nI k1), .int 0, .int ta, .int tk, .ref co, .int (nI cc), su, .int ec, .int es]))] [w] _ _ := hB.ms (by simp) (fa_c hb1370 fa_n)
          refine lp_m (α := Nat × Nat) (nL := 3) (fun a9 => 600 - a9.1) (fun a9 H9 l9 => (k1 ≤ a9.1 ∧ a9.1 ≤ tn) ∧ (nvl B a9.1 a9.2 = nvl B k1 0 ∧ dgE B a9.1 = dgE B k1) ∧ (Bx B0 D H0 [(tx, .inl (cs 1, 600, .inl f)), (w, .inr (5, [.ref tx, .int (nI ((κ w).2.2.1)), .int (nI tn), .int (nI a9.1), .int 1, .int (nI k1), .int (nI ((min a9.2 1000000))), .int ta, .int tk, .ref co, .int (nI cc), su, .int ec, .int es]))] [w] H9 l9)) (fun a9 => [(0, .ref w), (1, .int (f k1))]) ?_ (k1, 0) _ _ _ ⟨(by show k1 ≤ (k1) ∧ (k1) ≤ tn; omega), ⟨rfl, rfl⟩, hB⟩ (lv_sub hl [1, 0] rfl)
          rintro ⟨k2, u2⟩ H locs ls ih1389 ⟨hk2, hu, hB⟩ hl
          have hl : lv_has ls 3 [(0, .ref w), (1, .int (f k1))] := hl
          have hk2 : k1 ≤ k2 ∧ k2 ≤ tn := hk2
          have hu : nvl B k2 u2 = nvl B k1 0 ∧ dgE B k2 = dgE B k1 := hu
          have hB : Bx B0 D _ [(tx, .inl (cs 1, 600, .inl f)), (w, .inr (5, [.ref tx, .int (nI ((κ w).2.2.1)), .int (nI tn), .int (nI k2), .int 1, .int (nI k1), .int (nI ((min u2 1000000))), .int ta, .int tk, .ref co, .int (nI cc), su, .int ec, .int es]))] [w] _ _ := hB
          refine lv_aload_n hx hb dX5_step_95 rfl (lv_at hl 0 rfl) ?_
          refine va_get (D := D) (ci := 5) (v := .int (nI k2)) (C := RX5) (T := TX5) (N := 14) hx hb hts iX5_step_5 hown hN.1 hB.1 1 rfl rfl 3 (by decide) (hts _ mX5_step_1) (fun _ h9 => h9) rfl dX5_step_96 ?_
          refine lv_aload_n hx hb dX5_step_99 rfl (lv_at hl 0 rfl) ?_
          refine va_get (D := D) (ci := 5) (v := .int (nI tn)) (C := RX5) (T := TX5) (N := 14) hx hb hts iX5_step_5 hown hN.1 hB.1 1 rfl rfl 2 (by decide) (hts _ mX5_step_2) (fun _ h9 => h9) rfl dX5_step_100 ?_
          refine lv_icmp_ge (tgt := 273) hx hb dX5_step_103 (by decide) (fun c1390 => ?_) (fun c1390 => ?_)
          · have c1390 : tn ≤ k2 := (nI_leI (a := tn) (b := k2) (by omega) (by omega)).mp c1390
            have hnd : ¬ isd (B k2) := by rw [hY.end_ (k := k2) (by omega)]; decide
            have hu : u2 = nvl B k1 0 ∧ k2 = dgE B k1 := ⟨(nvl_n hnd).symm.trans hu.1, (run_n (P := isd) hnd).symm.trans hu.2⟩
            have hT : WT B0 D cs T κ _ := hT.close hB ⟨⟨1, _, rfl, ok_6 hw.1 ⟨_, _, _, _, _, _, _, _, _, _, _, _, _, rfl, (by omega), (by omega), (by omega), (by omega), (by omega), t1370_0, t1370_9, c1370_11, c1370_p2⟩⟩, trivial⟩
            have hF : Fr B0 [10] κ H0 _ := hF.close hB (fa_c (by simp [hw.2]) fa_n)
            have hL : OkL B0 _ := hB.2.2.2.2.2
            have hP : va_P D vwCl [(tx, .inl (cs 1, 600, .inl f)), (w, .inr (5, [.ref tx, .int (nI ((κ w).2.2.1)), .int (nI tn), .int (nI k2), .int 1, .int (nI k1), .int (nI ((min u2 1000000))), .int ta, .int tk, .ref co, .int (nI cc), su, .int ec, .int es]))] _ := hB.1
            have hkw : va_at D vwCl (w, .inr (5, [.ref tx, .int (nI ((κ w).2.2.1)), .int (nI tn), .int (nI k2), .int 1, .int (nI k1), .int (nI ((min u2 1000000))), .int ta, .int tk, .ref co, .int (nI cc), su, .int ec, .int es])) _ := hP 1 _ rfl
            have hktx : va_at D vwCl (tx, .inl (cs 1, 600, .inl f)) _ := hP 0 _ rfl
            have hkco := hkco.kept (hB.2.2.2.1 _ hkco.lt (by simp only [List.mem_cons, List.not_mem_nil, or_false, not_or]; exact ne_c hco.1 hw.1 (by decide)))
            obtain ⟨g1, g2, g3⟩ := tk_d hd1
            have g2 : tkV B k1 = nI (min u2 1000000) := by rw [g2, ← hu.1]
            have g3 : tkE B k1 = k2 := g3.trans hu.2.symm
            exact en_v hx hb hr hlocks hL (Nat.zero_le _) (Nat.zero_le _) dX5_step_273 (⟨hT, hF, by rw [hsk, g1, g2, g3]; exact ⟨hkw, hktx, hkco⟩⟩)
          · have c1390 : ¬ tn ≤ k2 := fun h9 => c1390 ((nI_leI (a := tn) (b := k2) (by omega) (by omega)).mpr h9)
            refine lv_aload_n hx hb dX5_step_106 rfl (lv_at hl 0 rfl) ?_
            refine va_get (D := D) (ci := 5) (v := .ref tx) (C := RX5) (T := TX5) (N := 14) hx hb hts iX5_step_5 hown hN.1 hB.1 1 rfl rfl 0 (by decide) (hts _ mX5_step_3) (fun _ h9 => h9) rfl dX5_step_107 ?_
            refine lv_aload_n hx hb dX5_step_110 rfl (lv_at hl 0 rfl) ?_
            refine va_get (D := D) (ci := 5) (v := .int (nI k2)) (C := RX5) (T := TX5) (N := 14) hx hb hts iX5_step_5 hown hN.1 hB.1 1 rfl rfl 3 (by decide) (hts _ mX5_step_1) (fun _ h9 => h9) rfl dX5_step_111 ?_
            refine ld_b (v := (f k2)) hx hb hN hB.1 0 rfl (vp_in_nI (n := k2) (N := 600) (by omega) (by omega)) (by rw [(show ((nI k2) : Int32).toNatClampNeg = k2 from nI_clamp (n := k2) (by omega))]) dX5_step_114 ?_
            refine lv_bipush (v := 48) hx hb dX5_step_115 (by decide) ?_
            refine lv_icmp_lt (tgt := 273) hx hb dX5_step_117 (by decide) (fun c1391 => ?_) (fun c1391 => ?_)
            · have hnd : ¬ isd (B k2) := fun g9 => ((hf.d hY (by omega)).mpr g9).1 c1391
              have hu : u2 = nvl B k1 0 ∧ k2 = dgE B k1 := ⟨(nvl_n hnd).symm.trans hu.1, (run_n (P := isd) hnd).symm.trans hu.2⟩
              have hT : WT B0 D cs T κ _ := hT.close hB ⟨⟨1, _, rfl, ok_6 hw.1 ⟨_, _, _, _, _, _, _, _, _, _, _, _, _, rfl, (by omega), (by omega), (by omega), (by omega), (by omega), t1370_0, t1370_9, c1370_11, c1370_p2⟩⟩, trivial⟩
              have hF : Fr B0 [10] κ H0 _ := hF.close hB (fa_c (by simp [hw.2]) fa_n)
              have hL : OkL B0 _ := hB.2.2.2.2.2
              have hP : va_P D vwCl [(tx, .inl (cs 1, 600, .inl f)), (w, .inr (5, [.ref tx, .int (nI ((κ w).2.2.1)), .int (nI tn), .int (nI k2), .int 1, .int (nI k1), .int (nI ((min u2 1000000))), .int ta, .int tk, .ref co, .int (nI cc), su, .int ec, .int es]))] _ := hB.1
              have hkw : va_at D vwCl (w, .inr (5, [.ref tx, .int (nI ((κ w).2.2.1)), .int (nI tn), .int (nI k2), .int 1, .int (nI k1), .int (nI ((min u2 1000000))), .int ta, .int tk, .ref co, .int (nI cc), su, .int ec, .int es])) _ := hP 1 _ rfl
              have hktx : va_at D vwCl (tx, .inl (cs 1, 600, .inl f)) _ := hP 0 _ rfl
              have hkco := hkco.kept (hB.2.2.2.1 _ hkco.lt (by simp only [List.mem_cons, List.not_mem_nil, or_false, not_or]; exact ne_c hco.1 hw.1 (by decide)))
              obtain ⟨g1, g2, g3⟩ := tk_d hd1
              have g2 : tkV B k1 = nI (min u2 1000000) := by rw [g2, ← hu.1]
              have g3 : tkE B k1 = k2 := g3.trans hu.2.symm
              exact en_v hx hb hr hlocks hL (Nat.zero_le _) (Nat.zero_le _) dX5_step_273 (⟨hT, hF, by rw [hsk, g1, g2, g3]; exact ⟨hkw, hktx, hkco⟩⟩)
            · refine lv_aload_n hx hb dX5_step_120 rfl (lv_at hl 0 rfl) ?_
              refine va_get (D := D) (ci := 5) (v := .ref tx) (C := RX5) (T := TX5) (N := 14) hx hb hts iX5_step_5 hown hN.1 hB.1 1 rfl rfl 0 (by decide) (hts _ mX5_step_3) (fun _ h9 => h9) rfl dX5_step_121 ?_
              refine lv_aload_n hx hb dX5_step_124 rfl (lv_at hl 0 rfl) ?_
              refine va_get (D := D) (ci := 5) (v := .int (nI k2)) (C := RX5) (T := TX5) (N := 14) hx hb hts iX5_step_5 hown hN.1 hB.1 1 rfl rfl 3 (by decide) (hts _ mX5_step_1) (fun _ h9 => h9) rfl dX5_step_125 ?_
              refine ld_b (v := (f k2)) hx hb hN hB.1 0 rfl (vp_in_nI (n := k2) (N := 600) (by omega) (by omega)) (by rw [(show ((nI k2) : Int32).toNatClampNeg = k2 from nI_clamp (n := k2) (by omega))]) dX5_step_128 ?_
              refine lv_bipush (v := 57) hx hb dX5_step_129 (by decide) ?_
              refine lv_icmp_gt (tgt := 273) hx hb dX5_step_131 (by decide) (fun c1392 => ?_) (fun c1392 => ?_)
              · have hnd : ¬ isd (B k2) := fun g9 => ((hf.d hY (by omega)).mpr g9).2 c1392
                have hu : u2 = nvl B k1 0 ∧ k2 = dgE B k1 := ⟨(nvl_n hnd).symm.trans hu.1, (run_n (P := isd) hnd).symm.trans hu.2⟩
                have hT : WT B0 D cs T κ _ := hT.close hB ⟨⟨1, _, rfl, ok_6 hw.1 ⟨_, _, _, _, _, _, _, _, _, _, _, _, _, rfl, (by omega), (by omega), (by omega), (by omega), (by omega), t1370_0, t1370_9, c1370_11, c1370_p2⟩⟩, trivial⟩
                have hF : Fr B0 [10] κ H0 _ := hF.close hB (fa_c (by simp [hw.2]) fa_n)
                have hL : OkL B0 _ := hB.2.2.2.2.2
                have hP : va_P D vwCl [(tx, .inl (cs 1, 600, .inl f)), (w, .inr (5, [.ref tx, .int (nI ((κ w).2.2.1)), .int (nI tn), .int (nI k2), .int 1, .int (nI k1), .int (nI ((min u2 1000000))), .int ta, .int tk, .ref co, .int (nI cc), su, .int ec, .int es]))] _ := hB.1
                have hkw : va_at D vwCl (w, .inr (5, [.ref tx, .int (nI ((κ w).2.2.1)), .int (nI tn), .int (nI k2), .int 1, .int (nI k1), .int (nI ((min u2 1000000))), .int ta, .int tk, .ref co, .int (nI cc), su, .int ec, .int es])) _ := hP 1 _ rfl
                have hktx : va_at D vwCl (tx, .inl (cs 1, 600, .inl f)) _ := hP 0 _ rfl
                have hkco := hkco.kept (hB.2.2.2.1 _ hkco.lt (by simp only [List.mem_cons, List.not_mem_nil, or_false, not_or]; exact ne_c hco.1 hw.1 (by decide)))
                obtain ⟨g1, g2, g3⟩ := tk_d hd1
                have g2 : tkV B k1 = nI (min u2 1000000) := by rw [g2, ← hu.1]
                have g3 : tkE B k1 = k2 := g3.trans hu.2.symm
                exact en_v hx hb hr hlocks hL (Nat.zero_le _) (Nat.zero_le _) dX5_step_273 (⟨hT, hF, by rw [hsk, g1, g2, g3]; exact ⟨hkw, hktx, hkco⟩⟩)
              · have hdd : isd (B k2) := (hf.d hY (by omega)).mp ⟨c1391, c1392⟩
                refine lv_bipush (v := 10) hx hb dX5_step_134 (by decide) ?_
                refine lv_aload_n hx hb dX5_step_136 rfl (lv_at hl 0 rfl) ?_
                refine va_get (D := D) (ci := 5) (v := .int (nI ((min u2 1000000)))) (C := RX5) (T := TX5) (N := 14) hx hb hts iX5_step_5 hown hN.1 hB.1 1 rfl rfl 6 (by decide) (hts _ mX5_step_5) (fun _ h9 => h9) rfl dX5_step_137 ?_
                refine lv_imul hx hb dX5_step_140 ?_
                refine tp_i (nI (10 * ((min u2 1000000)))) (nI_mul 10 ((min u2 1000000))) ?_
                refine lv_aload_n hx hb dX5_step_141 rfl (lv_at hl 0 rfl) ?_
                refine va_get (D := D) (ci := 5) (v := .ref tx) (C := RX5) (T := TX5) (N := 14) hx hb hts iX5_step_5 hown hN.1 hB.1 1 rfl rfl 0 (by decide) (hts _ mX5_step_3) (fun _ h9 => h9) rfl dX5_step_142 ?_
                refine lv_aload_n hx hb dX5_step_145 rfl (lv_at hl 0 rfl) ?_
                refine va_get (D := D) (ci := 5) (v := .int (nI k2)) (C := RX5) (T := TX5) (N := 14) hx hb hts iX5_step_5 hown hN.1 hB.1 1 rfl rfl 3 (by decide) (hts _ mX5_step_1) (fun _ h9 => h9) rfl dX5_step_146 ?_
                refine ld_b (v := (f k2)) hx hb hN hB.1 0 rfl (vp_in_nI (n := k2) (N := 600) (by omega) (by omega)) (by rw [(show ((nI k2) : Int32).toNatClampNeg = k2 from nI_clamp (n := k2) (by omega))]) dX5_step_149 ?_
                refine lv_iadd hx hb dX5_step_150 ?_
                refine lv_bipush (v := 48) hx hb dX5_step_151 (by decide) ?_
                refine lv_isub hx hb dX5_step_153 ?_
                refine tp_i (nI ((10 * min u2 1000000 + dg (B k2)))) (dg_ar hY hf hdd) ?_
                have hdg := dg_lt hY hdd
                refine lv_istore_n (lv' := [(2, .int (nI ((10 * min u2 1000000 + dg (B k2))))), (0, .ref w), (1, .int (f k1))]) hx hb dX5_step_154 rfl hl (by decide) rfl (fun ls hl => ?_)
                refine lv_aload_n hx hb dX5_step_155 rfl (lv_at hl 1 rfl) ?_
                refine lv_iload_n hx hb dX5_step_156 rfl (lv_at hl 0 rfl) ?_
                refine lv_ldc (v := 1000000) hx hb hown (hts _ mX5_step_7) dX5_step_157 ?_
                refine lv_icmp_ge (tgt := 166) hx hb dX5_step_159 (by decide) (fun c1393 => ?_) (fun c1393 => ?_)
                · have c1393 : 1000000 ≤ ((10 * min u2 1000000 + dg (B k2))) := (nI_leI (a := 1000000) (b := ((10 * min u2 1000000 + dg (B k2)))) (by omega) (by omega)).mp c1393
                  refine lv_ldc (v := 1000000) hx hb hown (hts _ mX5_step_7) dX5_step_166 ?_
                  refine tp_i (nI (min (10 * u2 + dg (B k2)) 1000000)) (by rw [show min (10 * u2 + dg (B k2)) 1000000 = 1000000 by omega]; rfl) ?_
                  refine b_put (D := D) (ci := 5) (v := .int (nI ((min (10 * u2 + dg (B k2)) 1000000)))) (ty := .int) (C := RX5) (T := TX5) (N := 14) hx hb hts iX5_step_5 tyX5 tyX5_ok nmX5 hown hN hB 1 rfl rfl 6 (by decide) (hts _ mX5_step_5) (fun _ h9 => h9) rfl (by decide +kernel) rfl rfl (Nat.le_of_ble_eq_true rfl) (.inr ⟨rfl, List.mem_of_getElem? (i := 0) rfl⟩) dX5_step_168 (fun H locs hB => ?_)
                  have hB : Bx B0 D _ [(tx, .inl (cs 1, 600, .inl f)), (w, .inr (5, [.ref tx, .int (nI ((κ w).2.2.1)), .int (nI tn), .int (nI k2), .int 1, .int (nI k1), .int (nI ((min (10 * u2 + dg (B k2)) 1000000))), .int ta, .int tk, .ref co, .int (nI cc), su, .int ec, .int es]))] [w] _ _ := hB
                  refine lv_aload_n hx hb dX5_step_171 rfl (lv_at hl 1 rfl) ?_
                  refine lv_dup hx hb dX5_step_172 rfl ?_
                  refine va_get (D := D) (ci := 5) (v := .int (nI k2)) (C := RX5) (T := TX5) (N := 14) hx hb hts iX5_step_5 hown hN.1 hB.1 1 rfl rfl 3 (by decide) (hts _ mX5_step_1) (fun _ h9 => h9) rfl dX5_step_173 ?_
                  refine lv_iconst (v := 1) hx hb dX5_step_176 (by decide) ?_
                  refine lv_iadd hx hb dX5_step_177 ?_
                  refine tp_i (nI (k2 + 1)) (nI_add k2 1) ?_
                  refine b_put (D := D) (ci := 5) (v := .int (nI (k2 + 1))) (ty := .int) (C := RX5) (T := TX5) (N := 14) hx hb hts iX5_step_5 tyX5 tyX5_ok nmX5 hown hN hB 1 rfl rfl 3 (by decide) (hts _ mX5_step_1) (fun _ h9 => h9) rfl (by decide +kernel) rfl rfl (Nat.le_of_ble_eq_true rfl) (.inr ⟨rfl, List.mem_of_getElem? (i := 0) rfl⟩) dX5_step_178 (fun H locs hB => ?_)
                  have hB : Bx B0 D _ [(tx, .inl (cs 1, 600, .inl f)), (w, .inr (5, [.ref tx, .int (nI ((κ w).2.2.1)), .int (nI tn), .int (nI (k2 + 1)), .int 1, .int (nI k1), .int (nI ((min (10 * u2 + dg (B k2)) 1000000))), .int ta, .int tk, .ref co, .int (nI cc), su, .int ec, .int es]))] [w] _ _ := hB
                  refine lv_goto (tgt := 95) hx hb dX5_step_181 (by decide) ?_
                  exact ih1389 ((k2 + 1), (10 * u2 + dg (B k2))) _ _ _ (by show 600 - ((k2 + 1)) < 600 - k2; omega) ⟨(by show k1 ≤ ((k2 + 1)) ∧ ((k2 + 1)) ≤ tn; omega), ⟨(nvl_y hdd (by omega)).symm.trans hu.1, (run_y (P := isd) hdd (by omega)).symm.trans hu.2⟩, hB⟩ (lv_sub hl [1, 2] rfl)
                · have c1393 : ¬ 1000000 ≤ ((10 * min u2 1000000 + dg (B k2))) := fun h9 => c1393 ((nI_leI (a := 1000000) (b := ((10 * min u2 1000000 + dg (B k2)))) (by omega) (by omega)).mpr h9)
                  refine lv_iload_n hx hb dX5_step_162 rfl (lv_at hl 0 rfl) ?_
                  refine lv_goto (tgt := 168) hx hb dX5_step_163 (by decide) ?_
                  refine tp_i (nI (min (10 * u2 + dg (B k2)) 1000000)) (by rw [show min (10 * u2 + dg (B k2)) 1000000 = 10 * min u2 1000000 + dg (B k2) by omega]) ?_
                  refine b_put (D := D) (ci := 5) (v := .int (nI ((min (10 * u2 + dg (B k2)) 1000000)))) (ty := .int) (C := RX5) (T := TX5) (N := 14) hx hb hts iX5_step_5 tyX5 tyX5_ok nmX5 hown hN hB 1 rfl rfl 6 (by decide) (hts _ mX5_step_5) (fun _ h9 => h9) rfl (by decide +kernel) rfl rfl (Nat.le_of_ble_eq_true rfl) (.inr ⟨rfl, List.mem_of_getElem? (i := 0) rfl⟩) dX5_step_168 (fun H locs hB => ?_)
                  have hB : Bx B0 D _ [(tx, .inl (cs 1, 600, .inl f)), (w, .inr (5, [.ref tx, .int (nI ((κ w).2.2.1)), .int (nI tn), .int (nI k2), .int 1, .int (nI k1), .int (nI ((min (10 * u2 + dg (B k2)) 1000000))), .int ta, .int tk, .ref co, .int (nI cc), su, .int ec, .int es]))] [w] _ _ := hB
                  refine lv_aload_n hx hb dX5_step_171 rfl (lv_at hl 1 rfl) ?_
                  refine lv_dup hx hb dX5_step_172 rfl ?_
                  refine va_get (D := D) (ci := 5) (v := .int (nI k2)) (C := RX5) (T := TX5) (N := 14) hx hb hts iX5_step_5 hown hN.1 hB.1 1 rfl rfl 3 (by decide) (hts _ mX5_step_1) (fun _ h9 => h9) rfl dX5_step_173 ?_
                  refine lv_iconst (v := 1) hx hb dX5_step_176 (by decide) ?_
                  refine lv_iadd hx hb dX5_step_177 ?_
                  refine tp_i (nI (k2 + 1)) (nI_add k2 1) ?_
                  refine b_put (D := D) (ci := 5) (v := .int (nI (k2 + 1))) (ty := .int) (C := RX5) (T := TX5) (N := 14) hx hb hts iX5_step_5 tyX5 tyX5_ok nmX5 hown hN hB 1 rfl rfl 3 (by decide) (hts _ mX5_step_1) (fun _ h9 => h9) rfl (by decide +kernel) rfl rfl (Nat.le_of_ble_eq_true rfl) (.inr ⟨rfl, List.mem_of_getElem? (i := 0) rfl⟩) dX5_step_178 (fun H locs hB => ?_)
                  have hB : Bx B0 D _ [(tx, .inl (cs 1, 600, .inl f)), (w, .inr (5, [.ref tx, .int (nI ((κ w).2.2.1)), .int (nI tn), .int (nI (k2 + 1)), .int 1, .int (nI k1), .int (nI ((min (10 * u2 + dg (B k2)) 1000000))), .int ta, .int tk, .ref co, .int (nI cc), su, .int ec, .int es]))] [w] _ _ := hB
                  refine lv_goto (tgt := 95) hx hb dX5_step_181 (by decide) ?_
                  exact ih1389 ((k2 + 1), (10 * u2 + dg (B k2))) _ _ _ (by show 600 - ((k2 + 1)) < 600 - k2; omega) ⟨(by show k1 ≤ ((k2 + 1)) ∧ ((k2 + 1)) ≤ tn; omega), ⟨(nvl_y hdd (by omega)).symm.trans hu.1, (run_y (P := isd) hdd (by omega)).symm.trans hu.2⟩, hB⟩ (lv_sub hl [1, 2] rfl)
    · have c1374 : ¬ k1 < tn := fun h9 => c1374 ((nI_ltI (a := k1) (b := tn) (by omega) (by omega)).mpr h9)
      refine lv_aload_n hx hb dX5_step_62 rfl (lv_at hl 0 rfl) ?_
      refine lv_iconst (v := 0) hx hb dX5_step_63 (by decide) ?_
      refine b_put (D := D) (ci := 5) (v := .int 0) (ty := .int) (C := RX5) (T := TX5) (N := 14) hx hb hts iX5_step_5 tyX5 tyX5_ok nmX5 hown hN hB 1 rfl rfl 4 (by decide) (hts _ mX5_step_6) (fun _ h9 => h9) rfl (by decide +kernel) rfl rfl (Nat.le_of_ble_eq_true rfl) (.inr ⟨rfl, List.mem_of_getElem? (i := 0) rfl⟩) dX5_step_64 (fun H locs hB => ?_)
      have hB : Bx B0 D _ [(tx, .inl (cs 1, 600, .inl f)), (w, .inr (5, [.ref tx, .int (nI ((κ w).2.2.1)), .int (nI tn), .int (nI k1), .int 0, .int (nI k1), .int 0, .int ta, .int tk, .ref co, .int (nI cc), su, .int ec, .int es]))] [w] _ _ := hB
      have hT : WT B0 D cs T κ _ := hT.close hB ⟨⟨1, _, rfl, ok_6 hw.1 ⟨_, _, _, _, _, _, _, _, _, _, _, _, _, rfl, (by omega), (by omega), (by omega), (by omega), (by omega), t1370_0, t1370_9, c1370_11, c1370_p2⟩⟩, trivial⟩
      have hF : Fr B0 [10] κ H0 _ := hF.close hB (fa_c (by simp [hw.2]) fa_n)
      have hL : OkL B0 _ := hB.2.2.2.2.2
      have hP : va_P D vwCl [(tx, .inl (cs 1, 600, .inl f)), (w, .inr (5, [.ref tx, .int (nI ((κ w).2.2.1)), .int (nI tn), .int (nI k1), .int 0, .int (nI k1), .int 0, .int ta, .int tk, .ref co, .int (nI cc), su, .int ec, .int es]))] _ := hB.1
      have hkw : va_at D vwCl (w, .inr (5, [.ref tx, .int (nI ((κ w).2.2.1)), .int (nI tn), .int (nI k1), .int 0, .int (nI k1), .int 0, .int ta, .int tk, .ref co, .int (nI cc), su, .int ec, .int es])) _ := hP 1 _ rfl
      have hktx : va_at D vwCl (tx, .inl (cs 1, 600, .inl f)) _ := hP 0 _ rfl
      have hkco := hkco.kept (hB.2.2.2.1 _ hkco.lt (by simp only [List.mem_cons, List.not_mem_nil, or_false, not_or]; exact ne_c hco.1 hw.1 (by decide)))
      obtain ⟨g1, g2, g3⟩ := tk_e (hY.end_ (k := k1) (by omega))
      exact en_v hx hb hr hlocks hL (Nat.zero_le _) (Nat.zero_le _) dX5_step_67 (⟨hT, hF, by rw [hsk, g1, g2, g3]; exact ⟨hkw, hktx, hkco⟩⟩)
  · have c1373 : ¬ tn ≤ k1 := fun h9 => c1373 ((nI_leI (a := tn) (b := k1) (by omega) (by omega)).mpr h9)
    refine lv_aload_n hx hb dX5_step_11 rfl (lv_at hl 0 rfl) ?_
    refine va_get (D := D) (ci := 5) (v := .ref tx) (C := RX5) (T := TX5) (N := 14) hx hb hts iX5_step_5 hown hN.1 hB.1 1 rfl rfl 0 (by decide) (hts _ mX5_step_3) (fun _ h9 => h9) rfl dX5_step_12 ?_
    refine lv_aload_n hx hb dX5_step_15 rfl (lv_at hl 0 rfl) ?_
    refine va_get (D := D) (ci := 5) (v := .int (nI k1)) (C := RX5) (T := TX5) (N := 14) hx hb hts iX5_step_5 hown hN.1 hB.1 1 rfl rfl 3 (by decide) (hts _ mX5_step_1) (fun _ h9 => h9) rfl dX5_step_16 ?_
    refine ld_b (v := (f k1)) hx hb hN hB.1 0 rfl (vp_in_nI (n := k1) (N := 600) (by omega) (by omega)) (by rw [(show ((nI k1) : Int32).toNatClampNeg = k1 from nI_clamp (n := k1) (by omega))]) dX5_step_19 ?_
    refine lv_bipush (v := 32) hx hb dX5_step_20 (by decide) ?_
    refine lv_icmp_ne (tgt := 38) hx hb dX5_step_22 (by decide) (fun c1394 => ?_) (fun c1394 => ?_)
    · have hsk : skp B pz = k1 := hk.symm.trans (run_n (P := fun x => x = 32) (fun e9 => c1394 ((hf.eq hY (c := 32) (k := k1) (by omega) (by decide)).mpr e9)))
      refine lv_aload_n hx hb dX5_step_38 rfl (lv_at hl 0 rfl) ?_
      refine lv_aload_n hx hb dX5_step_39 rfl (lv_at hl 0 rfl) ?_
      refine va_get (D := D) (ci := 5) (v := .int (nI k1)) (C := RX5) (T := TX5) (N := 14) hx hb hts iX5_step_5 hown hN.1 hB.1 1 rfl rfl 3 (by decide) (hts _ mX5_step_1) (fun _ h9 => h9) rfl dX5_step_40 ?_
      refine b_put (D := D) (ci := 5) (v := .int (nI k1)) (ty := .int) (C := RX5) (T := TX5) (N := 14) hx hb hts iX5_step_5 tyX5 tyX5_ok nmX5 hown hN hB 1 rfl rfl 5 (by decide) (hts _ mX5_step_4) (fun _ h9 => h9) rfl (by decide +kernel) rfl rfl (Nat.le_of_ble_eq_true rfl) (.inr ⟨rfl, List.mem_of_getElem? (i := 0) rfl⟩) dX5_step_43 (fun H locs hB => ?_)
      have hB : Bx B0 D _ [(tx, .inl (cs 1, 600, .inl f)), (w, .inr (5, [.ref tx, .int (nI ((κ w).2.2.1)), .int (nI tn), .int (nI k1), .int k0, .int (nI k1), .int v0, .int ta, .int tk, .ref co, .int (nI cc), su, .int ec, .int es]))] [w] _ _ := hB
      refine lv_aload_n hx hb dX5_step_46 rfl (lv_at hl 0 rfl) ?_
      refine lv_iconst (v := 0) hx hb dX5_step_47 (by decide) ?_
      refine b_put (D := D) (ci := 5) (v := .int 0) (ty := .int) (C := RX5) (T := TX5) (N := 14) hx hb hts iX5_step_5 tyX5 tyX5_ok nmX5 hown hN hB 1 rfl rfl 6 (by decide) (hts _ mX5_step_5) (fun _ h9 => h9) rfl (by decide +kernel) rfl rfl (Nat.le_of_ble_eq_true rfl) (.inr ⟨rfl, List.mem_of_getElem? (i := 0) rfl⟩) dX5_step_48 (fun H locs hB => ?_)
      have hB : Bx B0 D _ [(tx, .inl (cs 1, 600, .inl f)), (w, .inr (5, [.ref tx, .int (nI ((κ w).2.2.1)), .int (nI tn), .int (nI k1), .int k0, .int (nI k1), .int 0, .int ta, .int tk, .ref co, .int (nI cc), su, .int ec, .int es]))] [w] _ _ := hB
      refine lv_aload_n hx hb dX5_step_51 rfl (lv_at hl 0 rfl) ?_
      refine va_get (D := D) (ci := 5) (v := .int (nI k1)) (C := RX5) (T := TX5) (N := 14) hx hb hts iX5_step_5 hown hN.1 hB.1 1 rfl rfl 3 (by decide) (hts _ mX5_step_1) (fun _ h9 => h9) rfl dX5_step_52 ?_
      refine lv_aload_n hx hb dX5_step_55 rfl (lv_at hl 0 rfl) ?_
      refine va_get (D := D) (ci := 5) (v := .int (nI tn)) (C := RX5) (T := TX5) (N := 14) hx hb hts iX5_step_5 hown hN.1 hB.1 1 rfl rfl 2 (by decide) (hts _ mX5_step_2) (fun _ h9 => h9) rfl dX5_step_56 ?_
      refine lv_icmp_lt (tgt := 68) hx hb dX5_step_59 (by decide) (fun c1395 => ?_) (fun c1395 => ?_)
      · have c1395 : k1 < tn := (nI_ltI (a := k1) (b := tn) (by omega) (by omega)).mp c1395
        have hk1n : k1 < tn := by omega
        refine lv_aload_n hx hb dX5_step_68 rfl (lv_at hl 0 rfl) ?_
        refine va_get (D := D) (ci := 5) (v := .ref tx) (C := RX5) (T := TX5) (N := 14) hx hb hts iX5_step_5 hown hN.1 hB.1 1 rfl rfl 0 (by decide) (hts _ mX5_step_3) (fun _ h9 => h9) rfl dX5_step_69 ?_
        refine lv_aload_n hx hb dX5_step_72 rfl (lv_at hl 0 rfl) ?_
        refine va_get (D := D) (ci := 5) (v := .int (nI k1)) (C := RX5) (T := TX5) (N := 14) hx hb hts iX5_step_5 hown hN.1 hB.1 1 rfl rfl 3 (by decide) (hts _ mX5_step_1) (fun _ h9 => h9) rfl dX5_step_73 ?_
        refine ld_b (v := (f k1)) hx hb hN hB.1 0 rfl (vp_in_nI (n := k1) (N := 600) (by omega) (by omega)) (by rw [(show ((nI k1) : Int32).toNatClampNeg = k1 from nI_clamp (n := k1) (by omega))]) dX5_step_76 ?_
        refine lv_istore_n (lv' := [(1, .int (f k1)), (0, .ref w)]) hx hb dX5_step_77 rfl hl (by decide) rfl (fun ls hl => ?_)
        refine lv_iload_n hx hb dX5_step_78 rfl (lv_at hl 0 rfl) ?_
        refine lv_bipush (v := 48) hx hb dX5_step_79 (by decide) ?_
        refine lv_icmp_lt (tgt := 184) hx hb dX5_step_81 (by decide) (fun c1396 => ?_) (fun c1396 => ?_)
        · have hnd1 : ¬ isd (B k1) := fun g9 => ((hf.d hY hk1n).mpr g9).1 c1396
          refine lv_iload_n hx hb dX5_step_184 rfl (lv_at hl 0 rfl) ?_
          refine lv_bipush (v := 97) hx hb dX5_step_185 (by decide) ?_
          refine lv_icmp_lt (tgt := 253) hx hb dX5_step_187 (by decide) (fun c1397 => ?_) (fun c1397 => ?_)
          · have hnl1 : ¬ isl (B k1) := fun g9 => ((hf.l hY hk1n).mpr g9).1 c1397
            refine lv_aload_n hx hb dX5_step_253 rfl (lv_at hl 1 rfl) ?_
            refine lv_iconst (v := 3) hx hb dX5_step_254 (by decide) ?_
            refine b_put (D := D) (ci := 5) (v := .int 3) (ty := .int) (C := RX5) (T := TX5) (N := 14) hx hb hts iX5_step_5 tyX5 tyX5_ok nmX5 hown hN hB 1 rfl rfl 4 (by decide) (hts _ mX5_step_6) (fun _ h9 => h9) rfl (by decide +kernel) rfl rfl (Nat.le_of_ble_eq_true rfl) (.inr ⟨rfl, List.mem_of_getElem? (i := 0) rfl⟩) dX5_step_255 (fun H locs hB => ?_)
            have hB : Bx B0 D _ [(tx, .inl (cs 1, 600, .inl f)), (w, .inr (5, [.ref tx, .int (nI ((κ w).2.2.1)), .int (nI tn), .int (nI k1), .int 3, .int (nI k1), .int 0, .int ta, .int tk, .ref co, .int (nI cc), su, .int ec, .int es]))] [w] _ _ := hB
            refine lv_aload_n hx hb dX5_step_258 rfl (lv_at hl 1 rfl) ?_
            refine lv_iload_n hx hb dX5_step_259 rfl (lv_at hl 0 rfl) ?_
            refine b_put (D := D) (ci := 5) (v := .int (f k1)) (ty := .int) (C := RX5) (T := TX5) (N := 14) hx hb hts iX5_step_5 tyX5 tyX5_ok nmX5 hown hN hB 1 rfl rfl 6 (by decide) (hts _ mX5_step_5) (fun _ h9 => h9) rfl (by decide +kernel) rfl rfl (Nat.le_of_ble_eq_true rfl) (.inr ⟨rfl, List.mem_of_getElem? (i := 0) rfl⟩) dX5_step_260 (fun H locs hB => ?_)
            have hB : Bx B0 D _ [(tx, .inl (cs 1, 600, .inl f)), (w, .inr (5, [.ref tx, .int (nI ((κ w).2.2.1)), .int (nI tn), .int (nI k1), .int 3, .int (nI k1), .int (f k1), .int ta, .int tk, .ref co, .int (nI cc), su, .int ec, .int es]))] [w] _ _ := hB
            refine lv_aload_n hx hb dX5_step_263 rfl (lv_at hl 1 rfl) ?_
            refine lv_dup hx hb dX5_step_264 rfl ?_
            refine va_get (D := D) (ci := 5) (v := .int (nI k1)) (C := RX5) (T := TX5) (N := 14) hx hb hts iX5_step_5 hown hN.1 hB.1 1 rfl rfl 3 (by decide) (hts _ mX5_step_1) (fun _ h9 => h9) rfl dX5_step_265 ?_
            refine lv_iconst (v := 1) hx hb dX5_step_268 (by decide) ?_
            refine lv_iadd hx hb dX5_step_269 ?_
            refine tp_i (nI (k1 + 1)) (nI_add k1 1) ?_
            refine b_put (D := D) (ci := 5) (v := .int (nI (k1 + 1))) (ty := .int) (C := RX5) (T := TX5) (N := 14) hx hb hts iX5_step_5 tyX5 tyX5_ok nmX5 hown hN hB 1 rfl rfl 3 (by decide) (hts _ mX5_step_1) (fun _ h9 => h9) rfl (by decide +kernel) rfl rfl (Nat.le_of_ble_eq_true rfl) (.inr ⟨rfl, List.mem_of_getElem? (i := 0) rfl⟩) dX5_step_270 (fun H locs hB => ?_)
            have hB : Bx B0 D _ [(tx, .inl (cs 1, 600, .inl f)), (w, .inr (5, [.ref tx, .int (nI ((κ w).2.2.1)), .int (nI tn), .int (nI (k1 + 1)), .int 3, .int (nI k1), .int (f k1), .int ta, .int tk, .ref co, .int (nI cc), su, .int ec, .int es]))] [w] _ _ := hB
            have hT : WT B0 D cs T κ _ := hT.close hB ⟨⟨1, _, rfl, ok_6 hw.1 ⟨_, _, _, _, _, _, _, _, _, _, _, _, _, rfl, (by omega), (by omega), (by omega), (by omega), (by omega), t1370_0, t1370_9, c1370_11, c1370_p2⟩⟩, trivial⟩
            have hF : Fr B0 [10] κ H0 _ := hF.close hB (fa_c (by simp [hw.2]) fa_n)
            have hL : OkL B0 _ := hB.2.2.2.2.2
            have hP : va_P D vwCl [(tx, .inl (cs 1, 600, .inl f)), (w, .inr (5, [.ref tx, .int (nI ((κ w).2.2.1)), .int (nI tn), .int (nI (k1 + 1)), .int 3, .int (nI k1), .int (f k1), .int ta, .int tk, .ref co, .int (nI cc), su, .int ec, .int es]))] _ := hB.1
            have hkw : va_at D vwCl (w, .inr (5, [.ref tx, .int (nI ((κ w).2.2.1)), .int (nI tn), .int (nI (k1 + 1)), .int 3, .int (nI k1), .int (f k1), .int ta, .int tk, .ref co, .int (nI cc), su, .int ec, .int es])) _ := hP 1 _ rfl
            have hktx : va_at D vwCl (tx, .inl (cs 1, 600, .inl f)) _ := hP 0 _ rfl
            have hkco := hkco.kept (hB.2.2.2.1 _ hkco.lt (by simp only [List.mem_cons, List.not_mem_nil, or_false, not_or]; exact ne_c hco.1 hw.1 (by decide)))
            obtain ⟨g1, g2, g3⟩ := tk_m (hY.ne hk1n) hnd1 hnl1
            have g2 : tkV B k1 = f k1 := g2.trans (hf k1 hk1n).symm
            exact en_v hx hb hr hlocks hL (Nat.zero_le _) (Nat.zero_le _) dX5_step_273 (⟨hT, hF, by rw [hsk, g1, g2, g3]; exact ⟨hkw, hktx, hkco⟩⟩)
          · refine lv_iload_n hx hb dX5_step_190 rfl (lv_at hl 0 rfl) ?_
            refine lv_bipush (v := 122) hx hb dX5_step_191 (by decide) ?_
            refine lv_icmp_gt (tgt := 253) hx hb dX5_step_193 (by decide) (fun c1398 => ?_) (fun c1398 => ?_)
            · have hnl1 : ¬ isl (B k1) := fun g9 => ((hf.l hY hk1n).mpr g9).2 c1398
              refine lv_aload_n hx hb dX5_step_253 rfl (lv_at hl 1 rfl) ?_
              refine lv_iconst (v := 3) hx hb dX5_step_254 (by decide) ?_
              refine b_put (D := D) (ci := 5) (v := .int 3) (ty := .int) (C := RX5) (T := TX5) (N := 14) hx hb hts iX5_step_5 tyX5 tyX5_ok nmX5 hown hN hB 1 rfl rfl 4 (by decide) (hts _ mX5_step_6) (fun _ h9 => h9) rfl (by decide +kernel) rfl rfl (Nat.le_of_ble_eq_true rfl) (.inr ⟨rfl, List.mem_of_getElem? (i := 0) rfl⟩) dX5_step_255 (fun H locs hB => ?_)
              have hB : Bx B0 D _ [(tx, .inl (cs 1, 600, .inl f)), (w, .inr (5, [.ref tx, .int (nI ((κ w).2.2.1)), .int (nI tn), .int (nI k1), .int 3, .int (nI k1), .int 0, .int ta, .int tk, .ref co, .int (nI cc), su, .int ec, .int es]))] [w] _ _ := hB
              refine lv_aload_n hx hb dX5_step_258 rfl (lv_at hl 1 rfl) ?_
              refine lv_iload_n hx hb dX5_step_259 rfl (lv_at hl 0 rfl) ?_
              refine b_put (D := D) (ci := 5) (v := .int (f k1)) (ty := .int) (C := RX5) (T := TX5) (N := 14) hx hb hts iX5_step_5 tyX5 tyX5_ok nmX5 hown hN hB 1 rfl rfl 6 (by decide) (hts _ mX5_step_5) (fun _ h9 => h9) rfl (by decide +kernel) rfl rfl (Nat.le_of_ble_eq_true rfl) (.inr ⟨rfl, List.mem_of_getElem? (i := 0) rfl⟩) dX5_step_260 (fun H locs hB => ?_)
              have hB : Bx B0 D _ [(tx, .inl (cs 1, 600, .inl f)), (w, .inr (5, [.ref tx, .int (nI ((κ w).2.2.1)), .int (nI tn), .int (nI k1), .int 3, .int (nI k1), .int (f k1), .int ta, .int tk, .ref co, .int (nI cc), su, .int ec, .int es]))] [w] _ _ := hB
              refine lv_aload_n hx hb dX5_step_263 rfl (lv_at hl 1 rfl) ?_
              refine lv_dup hx hb dX5_step_264 rfl ?_
              refine va_get (D := D) (ci := 5) (v := .int (nI k1)) (C := RX5) (T := TX5) (N := 14) hx hb hts iX5_step_5 hown hN.1 hB.1 1 rfl rfl 3 (by decide) (hts _ mX5_step_1) (fun _ h9 => h9) rfl dX5_step_265 ?_
              refine lv_iconst (v := 1) hx hb dX5_step_268 (by decide) ?_
              refine lv_iadd hx hb dX5_step_269 ?_
              refine tp_i (nI (k1 + 1)) (nI_add k1 1) ?_
              refine b_put (D := D) (ci := 5) (v := .int (nI (k1 + 1))) (ty := .int) (C := RX5) (T := TX5) (N := 14) hx hb hts iX5_step_5 tyX5 tyX5_ok nmX5 hown hN hB 1 rfl rfl 3 (by decide) (hts _ mX5_step_1) (fun _ h9 => h9) rfl (by decide +kernel) rfl rfl (Nat.le_of_ble_eq_true rfl) (.inr ⟨rfl, List.mem_of_getElem? (i := 0) rfl⟩) dX5_step_270 (fun H locs hB => ?_)
              have hB : Bx B0 D _ [(tx, .inl (cs 1, 600, .inl f)), (w, .inr (5, [.ref tx, .int (nI ((κ w).2.2.1)), .int (nI tn), .int (nI (k1 + 1)), .int 3, .int (nI k1), .int (f k1), .int ta, .int tk, .ref co, .int (nI cc), su, .int ec, .int es]))] [w] _ _ := hB
              have hT : WT B0 D cs T κ _ := hT.close hB ⟨⟨1, _, rfl, ok_6 hw.1 ⟨_, _, _, _, _, _, _, _, _, _, _, _, _, rfl, (by omega), (by omega), (by omega), (by omega), (by omega), t1370_0, t1370_9, c1370_11, c1370_p2⟩⟩, trivial⟩
              have hF : Fr B0 [10] κ H0 _ := hF.close hB (fa_c (by simp [hw.2]) fa_n)
              have hL : OkL B0 _ := hB.2.2.2.2.2
              have hP : va_P D vwCl [(tx, .inl (cs 1, 600, .inl f)), (w, .inr (5, [.ref tx, .int (nI ((κ w).2.2.1)), .int (nI tn), .int (nI (k1 + 1)), .int 3, .int (nI k1), .int (f k1), .int ta, .int tk, .ref co, .int (nI cc), su, .int ec, .int es]))] _ := hB.1
              have hkw : va_at D vwCl (w, .inr (5, [.ref tx, .int (nI ((κ w).2.2.1)), .int (nI tn), .int (nI (k1 + 1)), .int 3, .int (nI k1), .int (f k1), .int ta, .int tk, .ref co, .int (nI cc), su, .int ec, .int es])) _ := hP 1 _ rfl
              have hktx : va_at D vwCl (tx, .inl (cs 1, 600, .inl f)) _ := hP 0 _ rfl
              have hkco := hkco.kept (hB.2.2.2.1 _ hkco.lt (by simp only [List.mem_cons, List.not_mem_nil, or_false, not_or]; exact ne_c hco.1 hw.1 (by decide)))
              obtain ⟨g1, g2, g3⟩ := tk_m (hY.ne hk1n) hnd1 hnl1
              have g2 : tkV B k1 = f k1 := g2.trans (hf k1 hk1n).symm
              exact en_v hx hb hr hlocks hL (Nat.zero_le _) (Nat.zero_le _) dX5_step_273 (⟨hT, hF, by rw [hsk, g1, g2, g3]; exact ⟨hkw, hktx, hkco⟩⟩)
            · have hl1 : isl (B k1) := (hf.l hY hk1n).mp ⟨c1397, c1398⟩
              refine lv_aload_n hx hb dX5_step_196 rfl (lv_at hl 1 rfl) ?_
              refine lv_iconst (v := 2) hx hb dX5_step_197 (by decide) ?_
              refine b_put (D := D) (ci := 5) (v := .int 2) (ty := .int) (C := RX5) (T := TX5) (N := 14) hx hb hts iX5_step_5 tyX5 tyX5_ok nmX5 hown hN hB 1 rfl rfl 4 (by decide) (hts _ mX5_step_6) (fun _ h9 => h9) rfl (by decide +kernel) rfl rfl (Nat.le_of_ble_eq_true rfl) (.inr ⟨rfl, List.mem_of_getElem? (i := 0) rfl⟩) dX5_step_198 (fun H locs hB => ?_)
              have hB : Bx B0 D _ [(tx, .inl (cs 1, 600, .inl f)), (w, .inr (5, [.ref tx, .int (nI ((κ w).2.2.1)), .int (nI tn), .int (nI k1), .int 2, .int (nI k1), .int 0, .int ta, .int tk, .ref co, .int (nI cc), su, .int ec, .int es]))] [w] _ _ := hB
              have hB : Bx B0 D _ [(tx, .inl (cs 1, 600, .inl f)), (w, .inr (5, [.ref tx, .int (nI ((κ w).2.2.1)), .int (nI tn), .int (nI k1), .int 2, .int (nI k1), .int 0, .int ta, .int tk, .ref co, .int (nI cc), su, .int ec, .int es]))] [w] _ _ := hB.ms (by simp) (fa_c hb1370 fa_n)
              refine lp_m (α := Nat) (nL := 3) (fun a9 => 600 - a9) (fun a9 H9 l9 => (k1 ≤ a9 ∧ a9 ≤ tn) ∧ (ltE B a9 = ltE B k1) ∧ (Bx B0 D H0 [(tx, .inl (cs 1, 600, .inl f)), (w, .inr (5, [.ref tx, .int (nI ((κ w).2.2.1)), .int (nI tn), .int (nI a9), .int 2, .int (nI k1), .int 0, .int ta, .int tk, .ref co, .int (nI cc), su, .int ec, .int es]))] [w] H9 l9)) (fun a9 => [(0, .ref w), (1, .int (f k1))]) ?_ k1 _ _ _ ⟨(by show k1 ≤ (k1) ∧ (k1) ≤ tn; omega), rfl, hB⟩ (lv_sub hl [1, 0] rfl)
              rintro k3 H locs ls ih1399 ⟨hk3, hl9, hB⟩ hl
              have hl : lv_has ls 3 [(0, .ref w), (1, .int (f k1))] := hl
              have hk3 : k1 ≤ k3 ∧ k3 ≤ tn := hk3
              have hl9 : ltE B k3 = ltE B k1 := hl9
              have hB : Bx B0 D _ [(tx, .inl (cs 1, 600, .inl f)), (w, .inr (5, [.ref tx, .int (nI ((κ w).2.2.1)), .int (nI tn), .int (nI k3), .int 2, .int (nI k1), .int 0, .int ta, .int tk, .ref co, .int (nI cc), su, .int ec, .int es]))] [w] _ _ := hB
              refine lv_aload_n hx hb dX5_step_201 rfl (lv_at hl 0 rfl) ?_
              refine va_get (D := D) (ci := 5) (v := .int (nI k3)) (C := RX5) (T := TX5) (N := 14) hx hb hts iX5_step_5 hown hN.1 hB.1 1 rfl rfl 3 (by decide) (hts _ mX5_step_1) (fun _ h9 => h9) rfl dX5_step_202 ?_
              refine lv_aload_n hx hb dX5_step_205 rfl (lv_at hl 0 rfl) ?_
              refine va_get (D := D) (ci := 5) (v := .int (nI tn)) (C := RX5) (T := TX5) (N := 14) hx hb hts iX5_step_5 hown hN.1 hB.1 1 rfl rfl 2 (by decide) (hts _ mX5_step_2) (fun _ h9 => h9) rfl dX5_step_206 ?_
              refine lv_icmp_ge (tgt := 273) hx hb dX5_step_209 (by decide) (fun c1400 => ?_) (fun c1400 => ?_)
              · have c1400 : tn ≤ k3 := (nI_leI (a := tn) (b := k3) (by omega) (by omega)).mp c1400
                have hnl : ¬ isl (B k3) := by rw [hY.end_ (k := k3) (by omega)]; decide
                have hl9 : k3 = ltE B k1 := (run_n (P := isl) hnl).symm.trans hl9
                have hT : WT B0 D cs T κ _ := hT.close hB ⟨⟨1, _, rfl, ok_6 hw.1 ⟨_, _, _, _, _, _, _, _, _, _, _, _, _, rfl, (by omega), (by omega), (by omega), (by omega), (by omega), t1370_0, t1370_9, c1370_11, c1370_p2⟩⟩, trivial⟩
                have hF : Fr B0 [10] κ H0 _ := hF.close hB (fa_c (by simp [hw.2]) fa_n)
                have hL : OkL B0 _ := hB.2.2.2.2.2
                have hP : va_P D vwCl [(tx, .inl (cs 1, 600, .inl f)), (w, .inr (5, [.ref tx, .int (nI ((κ w).2.2.1)), .int (nI tn), .int (nI k3), .int 2, .int (nI k1), .int 0, .int ta, .int tk, .ref co, .int (nI cc), su, .int ec, .int es]))] _ := hB.1
                have hkw : va_at D vwCl (w, .inr (5, [.ref tx, .int (nI ((κ w).2.2.1)), .int (nI tn), .int (nI k3), .int 2, .int (nI k1), .int 0, .int ta, .int tk, .ref co, .int (nI cc), su, .int ec, .int es])) _ := hP 1 _ rfl
                have hktx : va_at D vwCl (tx, .inl (cs 1, 600, .inl f)) _ := hP 0 _ rfl
                have hkco := hkco.kept (hB.2.2.2.1 _ hkco.lt (by simp only [List.mem_cons, List.not_mem_nil, or_false, not_or]; exact ne_c hco.1 hw.1 (by decide)))
                obtain ⟨g1, g2, g3⟩ := tk_l hl1
                have g3 : tkE B k1 = k3 := g3.trans hl9.symm
                exact en_v hx hb hr hlocks hL (Nat.zero_le _) (Nat.zero_le _) dX5_step_273 (⟨hT, hF, by rw [hsk, g1, g2, g3]; exact ⟨hkw, hktx, hkco⟩⟩)
              · have c1400 : ¬ tn ≤ k3 := fun h9 => c1400 ((nI_leI (a := tn) (b := k3) (by omega) (by omega)).mpr h9)
                refine lv_aload_n hx hb dX5_step_212 rfl (lv_at hl 0 rfl) ?_
                refine va_get (D := D) (ci := 5) (v := .ref tx) (C := RX5) (T := TX5) (N := 14) hx hb hts iX5_step_5 hown hN.1 hB.1 1 rfl rfl 0 (by decide) (hts _ mX5_step_3) (fun _ h9 => h9) rfl dX5_step_213 ?_
                refine lv_aload_n hx hb dX5_step_216 rfl (lv_at hl 0 rfl) ?_
                refine va_get (D := D) (ci := 5) (v := .int (nI k3)) (C := RX5) (T := TX5) (N := 14) hx hb hts iX5_step_5 hown hN.1 hB.1 1 rfl rfl 3 (by decide) (hts _ mX5_step_1) (fun _ h9 => h9) rfl dX5_step_217 ?_
                refine ld_b (v := (f k3)) hx hb hN hB.1 0 rfl (vp_in_nI (n := k3) (N := 600) (by omega) (by omega)) (by rw [(show ((nI k3) : Int32).toNatClampNeg = k3 from nI_clamp (n := k3) (by omega))]) dX5_step_220 ?_
                refine lv_bipush (v := 97) hx hb dX5_step_221 (by decide) ?_
                refine lv_icmp_lt (tgt := 273) hx hb dX5_step_223 (by decide) (fun c1401 => ?_) (fun c1401 => ?_)
                · have hnl : ¬ isl (B k3) := fun g9 => ((hf.l hY (by omega)).mpr g9).1 c1401
                  have hl9 : k3 = ltE B k1 := (run_n (P := isl) hnl).symm.trans hl9
                  have hT : WT B0 D cs T κ _ := hT.close hB ⟨⟨1, _, rfl, ok_6 hw.1 ⟨_, _, _, _, _, _, _, _, _, _, _, _, _, rfl, (by omega), (by omega), (by omega), (by omega), (by omega), t1370_0, t1370_9, c1370_11, c1370_p2⟩⟩, trivial⟩
                  have hF : Fr B0 [10] κ H0 _ := hF.close hB (fa_c (by simp [hw.2]) fa_n)
                  have hL : OkL B0 _ := hB.2.2.2.2.2
                  have hP : va_P D vwCl [(tx, .inl (cs 1, 600, .inl f)), (w, .inr (5, [.ref tx, .int (nI ((κ w).2.2.1)), .int (nI tn), .int (nI k3), .int 2, .int (nI k1), .int 0, .int ta, .int tk, .ref co, .int (nI cc), su, .int ec, .int es]))] _ := hB.1
                  have hkw : va_at D vwCl (w, .inr (5, [.ref tx, .int (nI ((κ w).2.2.1)), .int (nI tn), .int (nI k3), .int 2, .int (nI k1), .int 0, .int ta, .int tk, .ref co, .int (nI cc), su, .int ec, .int es])) _ := hP 1 _ rfl
                  have hktx : va_at D vwCl (tx, .inl (cs 1, 600, .inl f)) _ := hP 0 _ rfl
                  have hkco := hkco.kept (hB.2.2.2.1 _ hkco.lt (by simp only [List.mem_cons, List.not_mem_nil, or_false, not_or]; exact ne_c hco.1 hw.1 (by decide)))
                  obtain ⟨g1, g2, g3⟩ := tk_l hl1
                  have g3 : tkE B k1 = k3 := g3.trans hl9.symm
                  exact en_v hx hb hr hlocks hL (Nat.zero_le _) (Nat.zero_le _) dX5_step_273 (⟨hT, hF, by rw [hsk, g1, g2, g3]; exact ⟨hkw, hktx, hkco⟩⟩)
                · refine lv_aload_n hx hb dX5_step_226 rfl (lv_at hl 0 rfl) ?_
                  refine va_get (D := D) (ci := 5) (v := .ref tx) (C := RX5) (T := TX5) (N := 14) hx hb hts iX5_step_5 hown hN.1 hB.1 1 rfl rfl 0 (by decide) (hts _ mX5_step_3) (fun _ h9 => h9) rfl dX5_step_227 ?_
                  refine lv_aload_n hx hb dX5_step_230 rfl (lv_at hl 0 rfl) ?_
                  refine va_get (D := D) (ci := 5) (v := .int (nI k3)) (C := RX5) (T := TX5) (N := 14) hx hb hts iX5_step_5 hown hN.1 hB.1 1 rfl rfl 3 (by decide) (hts _ mX5_step_1) (fun _ h9 => h9) rfl dX5_step_231 ?_
                  refine ld_b (v := (f k3)) hx hb hN hB.1 0 rfl (vp_in_nI (n := k3) (N := 600) (by omega) (by omega)) (by rw [(show ((nI k3) : Int32).toNatClampNeg = k3 from nI_clamp (n := k3) (by omega))]) dX5_step_234 ?_
                  refine lv_bipush (v := 122) hx hb dX5_step_235 (by decide) ?_
                  refine lv_icmp_gt (tgt := 273) hx hb dX5_step_237 (by decide) (fun c1402 => ?_) (fun c1402 => ?_)
                  · have hnl : ¬ isl (B k3) := fun g9 => ((hf.l hY (by omega)).mpr g9).2 c1402
                    have hl9 : k3 = ltE B k1 := (run_n (P := isl) hnl).symm.trans hl9
                    have hT : WT B0 D cs T κ _ := hT.close hB ⟨⟨1, _, rfl, ok_6 hw.1 ⟨_, _, _, _, _, _, _, _, _, _, _, _, _, rfl, (by omega), (by omega), (by omega), (by omega), (by omega), t1370_0, t1370_9, c1370_11, c1370_p2⟩⟩, trivial⟩
                    have hF : Fr B0 [10] κ H0 _ := hF.close hB (fa_c (by simp [hw.2]) fa_n)
                    have hL : OkL B0 _ := hB.2.2.2.2.2
                    have hP : va_P D vwCl [(tx, .inl (cs 1, 600, .inl f)), (w, .inr (5, [.ref tx, .int (nI ((κ w).2.2.1)), .int (nI tn), .int (nI k3), .int 2, .int (nI k1), .int 0, .int ta, .int tk, .ref co, .int (nI cc), su, .int ec, .int es]))] _ := hB.1
                    have hkw : va_at D vwCl (w, .inr (5, [.ref tx, .int (nI ((κ w).2.2.1)), .int (nI tn), .int (nI k3), .int 2, .int (nI k1), .int 0, .int ta, .int tk, .ref co, .int (nI cc), su, .int ec, .int es])) _ := hP 1 _ rfl
                    have hktx : va_at D vwCl (tx, .inl (cs 1, 600, .inl f)) _ := hP 0 _ rfl
                    have hkco := hkco.kept (hB.2.2.2.1 _ hkco.lt (by simp only [List.mem_cons, List.not_mem_nil, or_false, not_or]; exact ne_c hco.1 hw.1 (by decide)))
                    obtain ⟨g1, g2, g3⟩ := tk_l hl1
                    have g3 : tkE B k1 = k3 := g3.trans hl9.symm
                    exact en_v hx hb hr hlocks hL (Nat.zero_le _) (Nat.zero_le _) dX5_step_273 (⟨hT, hF, by rw [hsk, g1, g2, g3]; exact ⟨hkw, hktx, hkco⟩⟩)
                  · have hll : isl (B k3) := (hf.l hY (by omega)).mp ⟨c1401, c1402⟩
                    refine lv_aload_n hx hb dX5_step_240 rfl (lv_at hl 0 rfl) ?_
                    refine lv_dup hx hb dX5_step_241 rfl ?_
                    refine va_get (D := D) (ci := 5) (v := .int (nI k3)) (C := RX5) (T := TX5) (N := 14) hx hb hts iX5_step_5 hown hN.1 hB.1 1 rfl rfl 3 (by decide) (hts _ mX5_step_1) (fun _ h9 => h9) rfl dX5_step_242 ?_
                    refine lv_iconst (v := 1) hx hb dX5_step_245 (by decide) ?_
                    refine lv_iadd hx hb dX5_step_246 ?_
                    refine tp_i (nI (k3 + 1)) (nI_add k3 1) ?_
                    refine b_put (D := D) (ci := 5) (v := .int (nI (k3 + 1))) (ty := .int) (C := RX5) (T := TX5) (N := 14) hx hb hts iX5_step_5 tyX5 tyX5_ok nmX5 hown hN hB 1 rfl rfl 3 (by decide) (hts _ mX5_step_1) (fun _ h9 => h9) rfl (by decide +kernel) rfl rfl (Nat.le_of_ble_eq_true rfl) (.inr ⟨rfl, List.mem_of_getElem? (i := 0) rfl⟩) dX5_step_247 (fun H locs hB => ?_)
                    have hB : Bx B0 D _ [(tx, .inl (cs 1, 600, .inl f)), (w, .inr (5, [.ref tx, .int (nI ((κ w).2.2.1)), .int (nI tn), .int (nI (k3 + 1)), .int 2, .int (nI k1), .int 0, .int ta, .int tk, .ref co, .int (nI cc), su, .int ec, .int es]))] [w] _ _ := hB
                    refine lv_goto (tgt := 201) hx hb dX5_step_250 (by decide) ?_
                    exact ih1399 (k3 + 1) _ _ _ (by show 600 - ((k3 + 1)) < 600 - k3; omega) ⟨(by show k1 ≤ ((k3 + 1)) ∧ ((k3 + 1)) ≤ tn; omega), ((run_y (P := isl) hll (by omega)).symm.trans hl9), hB⟩ (lv_sub hl [0, 1] rfl)
        · refine lv_iload_n hx hb dX5_step_84 rfl (lv_at hl 0 rfl) ?_
          refine lv_bipush (v := 57) hx hb dX5_step_85 (by decide) ?_
          refine lv_icmp_gt (tgt := 184) hx hb dX5_step_87 (by decide) (fun c1403 => ?_) (fun c1403 => ?_)
          · have hnd1 : ¬ isd (B k1) := fun g9 => ((hf.d hY hk1n).mpr g9).2 c1403
            refine lv_iload_n hx hb dX5_step_184 rfl (lv_at hl 0 rfl) ?_
            refine lv_bipush (v := 97) hx hb dX5_step_185 (by decide) ?_
            refine lv_icmp_lt (tgt := 253) hx hb dX5_step_187 (by decide) (fun c1404 => ?_) (fun c1404 => ?_)
            · have hnl1 : ¬ isl (B k1) := fun g9 => ((hf.l hY hk1n).mpr g9).1 c1404
              refine lv_aload_n hx hb dX5_step_253 rfl (lv_at hl 1 rfl) ?_
              refine lv_iconst (v := 3) hx hb dX5_step_254 (by decide) ?_
              refine b_put (D := D) (ci := 5) (v := .int 3) (ty := .int) (C := RX5) (T := TX5) (N := 14) hx hb hts iX5_step_5 tyX5 tyX5_ok nmX5 hown hN hB 1 rfl rfl 4 (by decide) (hts _ mX5_step_6) (fun _ h9 => h9) rfl (by decide +kernel) rfl rfl (Nat.le_of_ble_eq_true rfl) (.inr ⟨rfl, List.mem_of_getElem? (i := 0) rfl⟩) dX5_step_255 (fun H locs hB => ?_)
              have hB : Bx B0 D _ [(tx, .inl (cs 1, 600, .inl f)), (w, .inr (5, [.ref tx, .int (nI ((κ w).2.2.1)), .int (nI tn), .int (nI k1), .int 3, .int (nI k1), .int 0, .int ta, .int tk, .ref co, .int (nI cc), su, .int ec, .int es]))] [w] _ _ := hB
              refine lv_aload_n hx hb dX5_step_258 rfl (lv_at hl 1 rfl) ?_
              refine lv_iload_n hx hb dX5_step_259 rfl (lv_at hl 0 rfl) ?_
              refine b_put (D := D) (ci := 5) (v := .int (f k1)) (ty := .int) (C := RX5) (T := TX5) (N := 14) hx hb hts iX5_step_5 tyX5 tyX5_ok nmX5 hown hN hB 1 rfl rfl 6 (by decide) (hts _ mX5_step_5) (fun _ h9 => h9) rfl (by decide +kernel) rfl rfl (Nat.le_of_ble_eq_true rfl) (.inr ⟨rfl, List.mem_of_getElem? (i := 0) rfl⟩) dX5_step_260 (fun H locs hB => ?_)
              have hB : Bx B0 D _ [(tx, .inl (cs 1, 600, .inl f)), (w, .inr (5, [.ref tx, .int (nI ((κ w).2.2.1)), .int (nI tn), .int (nI k1), .int 3, .int (nI k1), .int (f k1), .int ta, .int tk, .ref co, .int (nI cc), su, .int ec, .int es]))] [w] _ _ := hB
              refine lv_aload_n hx hb dX5_step_263 rfl (lv_at hl 1 rfl) ?_
              refine lv_dup hx hb dX5_step_264 rfl ?_
              refine va_get (D := D) (ci := 5) (v := .int (nI k1)) (C := RX5) (T := TX5) (N := 14) hx hb hts iX5_step_5 hown hN.1 hB.1 1 rfl rfl 3 (by decide) (hts _ mX5_step_1) (fun _ h9 => h9) rfl dX5_step_265 ?_
              refine lv_iconst (v := 1) hx hb dX5_step_268 (by decide) ?_
              refine lv_iadd hx hb dX5_step_269 ?_
              refine tp_i (nI (k1 + 1)) (nI_add k1 1) ?_
              refine b_put (D := D) (ci := 5) (v := .int (nI (k1 + 1))) (ty := .int) (C := RX5) (T := TX5) (N := 14) hx hb hts iX5_step_5 tyX5 tyX5_ok nmX5 hown hN hB 1 rfl rfl 3 (by decide) (hts _ mX5_step_1) (fun _ h9 => h9) rfl (by decide +kernel) rfl rfl (Nat.le_of_ble_eq_true rfl) (.inr ⟨rfl, List.mem_of_getElem? (i := 0) rfl⟩) dX5_step_270 (fun H locs hB => ?_)
              have hB : Bx B0 D _ [(tx, .inl (cs 1, 600, .inl f)), (w, .inr (5, [.ref tx, .int (nI ((κ w).2.2.1)), .int (nI tn), .int (nI (k1 + 1)), .int 3, .int (nI k1), .int (f k1), .int ta, .int tk, .ref co, .int (nI cc), su, .int ec, .int es]))] [w] _ _ := hB
              have hT : WT B0 D cs T κ _ := hT.close hB ⟨⟨1, _, rfl, ok_6 hw.1 ⟨_, _, _, _, _, _, _, _, _, _, _, _, _, rfl, (by omega), (by omega), (by omega), (by omega), (by omega), t1370_0, t1370_9, c1370_11, c1370_p2⟩⟩, trivial⟩
              have hF : Fr B0 [10] κ H0 _ := hF.close hB (fa_c (by simp [hw.2]) fa_n)
              have hL : OkL B0 _ := hB.2.2.2.2.2
              have hP : va_P D vwCl [(tx, .inl (cs 1, 600, .inl f)), (w, .inr (5, [.ref tx, .int (nI ((κ w).2.2.1)), .int (nI tn), .int (nI (k1 + 1)), .int 3, .int (nI k1), .int (f k1), .int ta, .int tk, .ref co, .int (nI cc), su, .int ec, .int es]))] _ := hB.1
              have hkw : va_at D vwCl (w, .inr (5, [.ref tx, .int (nI ((κ w).2.2.1)), .int (nI tn), .int (nI (k1 + 1)), .int 3, .int (nI k1), .int (f k1), .int ta, .int tk, .ref co, .int (nI cc), su, .int ec, .int es])) _ := hP 1 _ rfl
              have hktx : va_at D vwCl (tx, .inl (cs 1, 600, .inl f)) _ := hP 0 _ rfl
              have hkco := hkco.kept (hB.2.2.2.1 _ hkco.lt (by simp only [List.mem_cons, List.not_mem_nil, or_false, not_or]; exact ne_c hco.1 hw.1 (by decide)))
              obtain ⟨g1, g2, g3⟩ := tk_m (hY.ne hk1n) hnd1 hnl1
              have g2 : tkV B k1 = f k1 := g2.trans (hf k1 hk1n).symm
              exact en_v hx hb hr hlocks hL (Nat.zero_le _) (Nat.zero_le _) dX5_step_273 (⟨hT, hF, by rw [hsk, g1, g2, g3]; exact ⟨hkw, hktx, hkco⟩⟩)
            · refine lv_iload_n hx hb dX5_step_190 rfl (lv_at hl 0 rfl) ?_
              refine lv_bipush (v := 122) hx hb dX5_step_191 (by decide) ?_
              refine lv_icmp_gt (tgt := 253) hx hb dX5_step_193 (by decide) (fun c1405 => ?_) (fun c1405 => ?_)
              · have hnl1 : ¬ isl (B k1) := fun g9 => ((hf.l hY hk1n).mpr g9).2 c1405
                refine lv_aload_n hx hb dX5_step_253 rfl (lv_at hl 1 rfl) ?_
                refine lv_iconst (v := 3) hx hb dX5_step_254 (by decide) ?_
                refine b_put (D := D) (ci := 5) (v := .int 3) (ty := .int) (C := RX5) (T := TX5) (N := 14) hx hb hts iX5_step_5 tyX5 tyX5_ok nmX5 hown hN hB 1 rfl rfl 4 (by decide) (hts _ mX5_step_6) (fun _ h9 => h9) rfl (by decide +kernel) rfl rfl (Nat.le_of_ble_eq_true rfl) (.inr ⟨rfl, List.mem_of_getElem? (i := 0) rfl⟩) dX5_step_255 (fun H locs hB => ?_)
                have hB : Bx B0 D _ [(tx, .inl (cs 1, 600, .inl f)), (w, .inr (5, [.ref tx, .int (nI ((κ w).2.2.1)), .int (nI tn), .int (nI k1), .int 3, .int (nI k1), .int 0, .int ta, .int tk, .ref co, .int (nI cc), su, .int ec, .int es]))] [w] _ _ := hB
                refine lv_aload_n hx hb dX5_step_258 rfl (lv_at hl 1 rfl) ?_
                refine lv_iload_n hx hb dX5_step_259 rfl (lv_at hl 0 rfl) ?_
                refine b_put (D := D) (ci := 5) (v := .int (f k1)) (ty := .int) (C := RX5) (T := TX5) (N := 14) hx hb hts iX5_step_5 tyX5 tyX5_ok nmX5 hown hN hB 1 rfl rfl 6 (by decide) (hts _ mX5_step_5) (fun _ h9 => h9) rfl (by decide +kernel) rfl rfl (Nat.le_of_ble_eq_true rfl) (.inr ⟨rfl, List.mem_of_getElem? (i := 0) rfl⟩) dX5_step_260 (fun H locs hB => ?_)
                have hB : Bx B0 D _ [(tx, .inl (cs 1, 600, .inl f)), (w, .inr (5, [.ref tx, .int (nI ((κ w).2.2.1)), .int (nI tn), .int (nI k1), .int 3, .int (nI k1), .int (f k1), .int ta, .int tk, .ref co, .int (nI cc), su, .int ec, .int es]))] [w] _ _ := hB
                refine lv_aload_n hx hb dX5_step_263 rfl (lv_at hl 1 rfl) ?_
                refine lv_dup hx hb dX5_step_264 rfl ?_
                refine va_get (D := D) (ci := 5) (v := .int (nI k1)) (C := RX5) (T := TX5) (N := 14) hx hb hts iX5_step_5 hown hN.1 hB.1 1 rfl rfl 3 (by decide) (hts _ mX5_step_1) (fun _ h9 => h9) rfl dX5_step_265 ?_
                refine lv_iconst (v := 1) hx hb dX5_step_268 (by decide) ?_
                refine lv_iadd hx hb dX5_step_269 ?_
                refine tp_i (nI (k1 + 1)) (nI_add k1 1) ?_
                refine b_put (D := D) (ci := 5) (v := .int (nI (k1 + 1))) (ty := .int) (C := RX5) (T := TX5) (N := 14) hx hb hts iX5_step_5 tyX5 tyX5_ok nmX5 hown hN hB 1 rfl rfl 3 (by decide) (hts _ mX5_step_1) (fun _ h9 => h9) rfl (by decide +kernel) rfl rfl (Nat.le_of_ble_eq_true rfl) (.inr ⟨rfl, List.mem_of_getElem? (i := 0) rfl⟩) dX5_step_270 (fun H locs hB => ?_)
                have hB : Bx B0 D _ [(tx, .inl (cs 1, 600, .inl f)), (w, .inr (5, [.ref tx, .int (nI ((κ w).2.2.1)), .int (nI tn), .int (nI (k1 + 1)), .int 3, .int (nI k1), .int (f k1), .int ta, .int tk, .ref co, .int (nI cc), su, .int ec, .int es]))] [w] _ _ := hB
                have hT : WT B0 D cs T κ _ := hT.close hB ⟨⟨1, _, rfl, ok_6 hw.1 ⟨_, _, _, _, _, _, _, _, _, _, _, _, _, rfl, (by omega), (by omega), (by omega), (by omega), (by omega), t1370_0, t1370_9, c1370_11, c1370_p2⟩⟩, trivial⟩
                have hF : Fr B0 [10] κ H0 _ := hF.close hB (fa_c (by simp [hw.2]) fa_n)
                have hL : OkL B0 _ := hB.2.2.2.2.2
                have hP : va_P D vwCl [(tx, .inl (cs 1, 600, .inl f)), (w, .inr (5, [.ref tx, .int (nI ((κ w).2.2.1)), .int (nI tn), .int (nI (k1 + 1)), .int 3, .int (nI k1), .int (f k1), .int ta, .int tk, .ref co, .int (nI cc), su, .int ec, .int es]))] _ := hB.1
                have hkw : va_at D vwCl (w, .inr (5, [.ref tx, .int (nI ((κ w).2.2.1)), .int (nI tn), .int (nI (k1 + 1)), .int 3, .int (nI k1), .int (f k1), .int ta, .int tk, .ref co, .int (nI cc), su, .int ec, .int es])) _ := hP 1 _ rfl
                have hktx : va_at D vwCl (tx, .inl (cs 1, 600, .inl f)) _ := hP 0 _ rfl
                have hkco := hkco.kept (hB.2.2.2.1 _ hkco.lt (by simp only [List.mem_cons, List.not_mem_nil, or_false, not_or]; exact ne_c hco.1 hw.1 (by decide)))
                obtain ⟨g1, g2, g3⟩ := tk_m (hY.ne hk1n) hnd1 hnl1
                have g2 : tkV B k1 = f k1 := g2.trans (hf k1 hk1n).symm
                exact en_v hx hb hr hlocks hL (Nat.zero_le _) (Nat.zero_le _) dX5_step_273 (⟨hT, hF, by rw [hsk, g1, g2, g3]; exact ⟨hkw, hktx, hkco⟩⟩)
              · have hl1 : isl (B k1) := (hf.l hY hk1n).mp ⟨c1404, c1405⟩
                refine lv_aload_n hx hb dX5_step_196 rfl (lv_at hl 1 rfl) ?_
                refine lv_iconst (v := 2) hx hb dX5_step_197 (by decide) ?_
                refine b_put (D := D) (ci := 5) (v := .int 2) (ty := .int) (C := RX5) (T := TX5) (N := 14) hx hb hts iX5_step_5 tyX5 tyX5_ok nmX5 hown hN hB 1 rfl rfl 4 (by decide) (hts _ mX5_step_6) (fun _ h9 => h9) rfl (by decide +kernel) rfl rfl (Nat.le_of_ble_eq_true rfl) (.inr ⟨rfl, List.mem_of_getElem? (i := 0) rfl⟩) dX5_step_198 (fun H locs hB => ?_)
                have hB : Bx B0 D _ [(tx, .inl (cs 1, 600, .inl f)), (w, .inr (5, [.ref tx, .int (nI ((κ w).2.2.1)), .int (nI tn), .int (nI k1), .int 2, .int (nI k1), .int 0, .int ta, .int tk, .ref co, .int (nI cc), su, .int ec, .int es]))] [w] _ _ := hB
                have hB : Bx B0 D _ [(tx, .inl (cs 1, 600, .inl f)), (w, .inr (5, [.ref tx, .int (nI ((κ w).2.2.1)), .int (nI tn), .int (nI k1), .int 2, .int (nI k1), .int 0, .int ta, .int tk, .ref co, .int (nI cc), su, .int ec, .int es]))] [w] _ _ := hB.ms (by simp) (fa_c hb1370 fa_n)
                refine lp_m (α := Nat) (nL := 3) (fun a9 => 600 - a9) (fun a9 H9 l9 => (k1 ≤ a9 ∧ a9 ≤ tn) ∧ (ltE B a9 = ltE B k1) ∧ (Bx B0 D H0 [(tx, .inl (cs 1, 600, .inl f)), (w, .inr (5, [.ref tx, .int (nI ((κ w).2.2.1)), .int (nI tn), .int (nI a9), .int 2, .int (nI k1), .int 0, .int ta, .int tk, .ref co, .int (nI cc), su, .int ec, .int es]))] [w] H9 l9)) (fun a9 => [(0, .ref w), (1, .int (f k1))]) ?_ k1 _ _ _ ⟨(by show k1 ≤ (k1) ∧ (k1) ≤ tn; omega), rfl, hB⟩ (lv_sub hl [1, 0] rfl)
                rintro k3 H locs ls ih1406 ⟨hk3, hl9, hB⟩ hl
                have hl : lv_has ls 3 [(0, .ref w), (1, .int (f k1))] := hl
                have hk3 : k1 ≤ k3 ∧ k3 ≤ tn := hk3
                have hl9 : ltE B k3 = ltE B k1 := hl9
                have hB : Bx B0 D _ [(tx, .inl (cs 1, 600, .inl f)), (w, .inr (5, [.ref tx, .int (nI ((κ w).2.2.1)), .int (nI tn), .int (nI k3), .int 2, .int (nI k1), .int 0, .int ta, .int tk, .ref co, .int (nI cc), su, .int ec, .int es]))] [w] _ _ := hB
                refine lv_aload_n hx hb dX5_step_201 rfl (lv_at hl 0 rfl) ?_
                refine va_get (D := D) (ci := 5) (v := .int (nI k3)) (C := RX5) (T := TX5) (N := 14) hx hb hts iX5_step_5 hown hN.1 hB.1 1 rfl rfl 3 (by decide) (hts _ mX5_step_1) (fun _ h9 => h9) rfl dX5_step_202 ?_
                refine lv_aload_n hx hb dX5_step_205 rfl (lv_at hl 0 rfl) ?_
                refine va_get (D := D) (ci := 5) (v := .int (nI tn)) (C := RX5) (T := TX5) (N := 14) hx hb hts iX5_step_5 hown hN.1 hB.1 1 rfl rfl 2 (by decide) (hts _ mX5_step_2) (fun _ h9 => h9) rfl dX5_step_206 ?_
                refine lv_icmp_ge (tgt := 273) hx hb dX5_step_209 (by decide) (fun c1407 => ?_) (fun c1407 => ?_)
                · have c1407 : tn ≤ k3 := (nI_leI (a := tn) (b := k3) (by omega) (by omega)).mp c1407
                  have hnl : ¬ isl (B k3) := by rw [hY.end_ (k := k3) (by omega)]; decide
                  have hl9 : k3 = ltE B k1 := (run_n (P := isl) hnl).symm.trans hl9
                  have hT : WT B0 D cs T κ _ := hT.close hB ⟨⟨1, _, rfl, ok_6 hw.1 ⟨_, _, _, _, _, _, _, _, _, _, _, _, _, rfl, (by omega), (by omega), (by omega), (by omega), (by omega), t1370_0, t1370_9, c1370_11, c1370_p2⟩⟩, trivial⟩
                  have hF : Fr B0 [10] κ H0 _ := hF.close hB (fa_c (by simp [hw.2]) fa_n)
                  have hL : OkL B0 _ := hB.2.2.2.2.2
                  have hP : va_P D vwCl [(tx, .inl (cs 1, 600, .inl f)), (w, .inr (5, [.ref tx, .int (nI ((κ w).2.2.1)), .int (nI tn), .int (nI k3), .int 2, .int (nI k1), .int 0, .int ta, .int tk, .ref co, .int (nI cc), su, .int ec, .int es]))] _ := hB.1
                  have hkw : va_at D vwCl (w, .inr (5, [.ref tx, .int (nI ((κ w).2.2.1)), .int (nI tn), .int (nI k3), .int 2, .int (nI k1), .int 0, .int ta, .int tk, .ref co, .int (nI cc), su, .int ec, .int es])) _ := hP 1 _ rfl
                  have hktx : va_at D vwCl (tx, .inl (cs 1, 600, .inl f)) _ := hP 0 _ rfl
                  have hkco := hkco.kept (hB.2.2.2.1 _ hkco.lt (by simp only [List.mem_cons, List.not_mem_nil, or_false, not_or]; exact ne_c hco.1 hw.1 (by decide)))
                  obtain ⟨g1, g2, g3⟩ := tk_l hl1
                  have g3 : tkE B k1 = k3 := g3.trans hl9.symm
                  exact en_v hx hb hr hlocks hL (Nat.zero_le _) (Nat.zero_le _) dX5_step_273 (⟨hT, hF, by rw [hsk, g1, g2, g3]; exact ⟨hkw, hktx, hkco⟩⟩)
                · have c1407 : ¬ tn ≤ k3 := fun h9 => c1407 ((nI_leI (a := tn) (b := k3) (by omega) (by omega)).mpr h9)
                  refine lv_aload_n hx hb dX5_step_212 rfl (lv_at hl 0 rfl) ?_
                  refine va_get (D := D) (ci := 5) (v := .ref tx) (C := RX5) (T := TX5) (N := 14) hx hb hts iX5_step_5 hown hN.1 hB.1 1 rfl rfl 0 (by decide) (hts _ mX5_step_3) (fun _ h9 => h9) rfl dX5_step_213 ?_
                  refine lv_aload_n hx hb dX5_step_216 rfl (lv_at hl 0 rfl) ?_
                  refine va_get (D := D) (ci := 5) (v := .int (nI k3)) (C := RX5) (T := TX5) (N := 14) hx hb hts iX5_step_5 hown hN.1 hB.1 1 rfl rfl 3 (by decide) (hts _ mX5_step_1) (fun _ h9 => h9) rfl dX5_step_217 ?_
                  refine ld_b (v := (f k3)) hx hb hN hB.1 0 rfl (vp_in_nI (n := k3) (N := 600) (by omega) (by omega)) (by rw [(show ((nI k3) : Int32).toNatClampNeg = k3 from nI_clamp (n := k3) (by omega))]) dX5_step_220 ?_
                  refine lv_bipush (v := 97) hx hb dX5_step_221 (by decide) ?_
                  refine lv_icmp_lt (tgt := 273) hx hb dX5_step_223 (by decide) (fun c1408 => ?_) (fun c1408 => ?_)
                  · have hnl : ¬ isl (B k3) := fun g9 => ((hf.l hY (by omega)).mpr g9).1 c1408
                    have hl9 : k3 = ltE B k1 := (run_n (P := isl) hnl).symm.trans hl9
                    have hT : WT B0 D cs T κ _ := hT.close hB ⟨⟨1, _, rfl, ok_6 hw.1 ⟨_, _, _, _, _, _, _, _, _, _, _, _, _, rfl, (by omega), (by omega), (by omega), (by omega), (by omega), t1370_0, t1370_9, c1370_11, c1370_p2⟩⟩, trivial⟩
                    have hF : Fr B0 [10] κ H0 _ := hF.close hB (fa_c (by simp [hw.2]) fa_n)
                    have hL : OkL B0 _ := hB.2.2.2.2.2
                    have hP : va_P D vwCl [(tx, .inl (cs 1, 600, .inl f)), (w, .inr (5, [.ref tx, .int (nI ((κ w).2.2.1)), .int (nI tn), .int (nI k3), .int 2, .int (nI k1), .int 0, .int ta, .int tk, .ref co, .int (nI cc), su, .int ec, .int es]))] _ := hB.1
                    have hkw : va_at D vwCl (w, .inr (5, [.ref tx, .int (nI ((κ w).2.2.1)), .int (nI tn), .int (nI k3), .int 2, .int (nI k1), .int 0, .int ta, .int tk, .ref co, .int (nI cc), su, .int ec, .int es])) _ := hP 1 _ rfl
                    have hktx : va_at D vwCl (tx, .inl (cs 1, 600, .inl f)) _ := hP 0 _ rfl
                    have hkco := hkco.kept (hB.2.2.2.1 _ hkco.lt (by simp only [List.mem_cons, List.not_mem_nil, or_false, not_or]; exact ne_c hco.1 hw.1 (by decide)))
                    obtain ⟨g1, g2, g3⟩ := tk_l hl1
                    have g3 : tkE B k1 = k3 := g3.trans hl9.symm
                    exact en_v hx hb hr hlocks hL (Nat.zero_le _) (Nat.zero_le _) dX5_step_273 (⟨hT, hF, by rw [hsk, g1, g2, g3]; exact ⟨hkw, hktx, hkco⟩⟩)
                  · refine lv_aload_n hx hb dX5_step_226 rfl (lv_at hl 0 rfl) ?_
                    refine va_get (D := D) (ci := 5) (v := .ref tx) (C := RX5) (T := TX5) (N := 14) hx hb hts iX5_step_5 hown hN.1 hB.1 1 rfl rfl 0 (by decide) (hts _ mX5_step_3) (fun _ h9 => h9) rfl dX5_step_227 ?_
                    refine lv_aload_n hx hb dX5_step_230 rfl (lv_at hl 0 rfl) ?_
                    refine va_get (D := D) (ci := 5) (v := .int (nI k3)) (C := RX5) (T := TX5) (N := 14) hx hb hts iX5_step_5 hown hN.1 hB.1 1 rfl rfl 3 (by decide) (hts _ mX5_step_1) (fun _ h9 => h9) rfl dX5_step_231 ?_
                    refine ld_b (v := (f k3)) hx hb hN hB.1 0 rfl (vp_in_nI (n := k3) (N := 600) (by omega) (by omega)) (by rw [(show ((nI k3) : Int32).toNatClampNeg = k3 from nI_clamp (n := k3) (by omega))]) dX5_step_234 ?_
                    refine lv_bipush (v := 122) hx hb dX5_step_235 (by decide) ?_
                    refine lv_icmp_gt (tgt := 273) hx hb dX5_step_237 (by decide) (fun c1409 => ?_) (fun c1409 => ?_)
                    · have hnl : ¬ isl (B k3) := fun g9 => ((hf.l hY (by omega)).mpr g9).2 c1409
                      have hl9 : k3 = ltE B k1 := (run_n (P := isl) hnl).symm.trans hl9
                      have hT : WT B0 D cs T κ _ := hT.close hB ⟨⟨1, _, rfl, ok_6 hw.1 ⟨_, _, _, _, _, _, _, _, _, _, _, _, _, rfl, (by omega), (by omega), (by omega), (by omega), (by omega), t1370_0, t1370_9, c1370_11, c1370_p2⟩⟩, trivial⟩
                      have hF : Fr B0 [10] κ H0 _ := hF.close hB (fa_c (by simp [hw.2]) fa_n)
                      have hL : OkL B0 _ := hB.2.2.2.2.2
                      have hP : va_P D vwCl [(tx, .inl (cs 1, 600, .inl f)), (w, .inr (5, [.ref tx, .int (nI ((κ w).2.2.1)), .int (nI tn), .int (nI k3), .int 2, .int (nI k1), .int 0, .int ta, .int tk, .ref co, .int (nI cc), su, .int ec, .int es]))] _ := hB.1
                      have hkw : va_at D vwCl (w, .inr (5, [.ref tx, .int (nI ((κ w).2.2.1)), .int (nI tn), .int (nI k3), .int 2, .int (nI k1), .int 0, .int ta, .int tk, .ref co, .int (nI cc), su, .int ec, .int es])) _ := hP 1 _ rfl
                      have hktx : va_at D vwCl (tx, .inl (cs 1, 600, .inl f)) _ := hP 0 _ rfl
                      have hkco := hkco.kept (hB.2.2.2.1 _ hkco.lt (by simp only [List.mem_cons, List.not_mem_nil, or_false, not_or]; exact ne_c hco.1 hw.1 (by decide)))
                      obtain ⟨g1, g2, g3⟩ := tk_l hl1
                      have g3 : tkE B k1 = k3 := g3.trans hl9.symm
                      exact en_v hx hb hr hlocks hL (Nat.zero_le _) (Nat.zero_le _) dX5_step_273 (⟨hT, hF, by rw [hsk, g1, g2, g3]; exact ⟨hkw, hktx, hkco⟩⟩)
                    · have hll : isl (B k3) := (hf.l hY (by omega)).mp ⟨c1408, c1409⟩
                      refine lv_aload_n hx hb dX5_step_240 rfl (lv_at hl 0 rfl) ?_
                      refine lv_dup hx hb dX5_step_241 rfl ?_
                      refine va_get (D := D) (ci := 5) (v := .int (nI k3)) (C := RX5) (T := TX5) (N := 14) hx hb hts iX5_step_5 hown hN.1 hB.1 1 rfl rfl 3 (by decide) (hts _ mX5_step_1) (fun _ h9 => h9) rfl dX5_step_242 ?_
                      refine lv_iconst (v := 1) hx hb dX5_step_245 (by decide) ?_
                      refine lv_iadd hx hb dX5_step_246 ?_
                      refine tp_i (nI (k3 + 1)) (nI_add k3 1) ?_
                      refine b_put (D := D) (ci := 5) (v := .int (nI (k3 + 1))) (ty := .int) (C := RX5) (T := TX5) (N := 14) hx hb hts iX5_step_5 tyX5 tyX5_ok nmX5 hown hN hB 1 rfl rfl 3 (by decide) (hts _ mX5_step_1) (fun _ h9 => h9) rfl (by decide +kernel) rfl rfl (Nat.le_of_ble_eq_true rfl) (.inr ⟨rfl, List.mem_of_getElem? (i := 0) rfl⟩) dX5_step_247 (fun H locs hB => ?_)
                      have hB : Bx B0 D _ [(tx, .inl (cs 1, 600, .inl f)), (w, .inr (5, [.ref tx, .int (nI ((κ w).2.2.1)), .int (nI tn), .int (nI (k3 + 1)), .int 2, .int (nI k1), .int 0, .int ta, .int tk, .ref co, .int (nI cc), su, .int ec, .int es]))] [w] _ _ := hB
                      refine lv_goto (tgt := 201) hx hb dX5_step_250 (by decide) ?_
                      exact ih1406 (k3 + 1) _ _ _ (by show 600 - ((k3 + 1)) < 600 - k3; omega) ⟨(by show k1 ≤ ((k3 + 1)) ∧ ((k3 + 1)) ≤ tn; omega), ((run_y (P := isl) hll (by omega)).symm.trans hl9), hB⟩ (lv_sub hl [0, 1] rfl)
          · have hd1 : isd (B k1) := (hf.d hY hk1n).mp ⟨c1396, c1403⟩
            refine lv_aload_n hx hb dX5_step_90 rfl (lv_at hl 1 rfl) ?_
            refine lv_iconst (v := 1) hx hb dX5_step_91 (by decide) ?_
            refine b_put (D := D) (ci := 5) (v := .int 1) (ty := .int) (C := RX5) (T := TX5) (N := 14) hx hb hts iX5_step_5 tyX5 tyX5_ok nmX5 hown hN hB 1 rfl rfl 4 (by decide) (hts _ mX5_step_6) (fun _ h9 => h9) rfl (by decide +kernel) rfl rfl (Nat.le_of_ble_eq_true rfl) (.inr ⟨rfl, List.mem_of_getElem? (i := 0) rfl⟩) dX5_step_92 (fun H locs hB => ?_)
            have hB : Bx B0 D _ [(tx, .inl (cs 1, 600, .inl f)), (w, .inr (5, [.ref tx, .int (nI ((κ w).2.2.1)), .int (nI tn), .int (nI k1), .int 1, .int (nI k1), .int 0, .int ta, .int tk, .ref co, .int (nI cc), su, .int ec, .int es]))] [w] _ _ := hB
            have hB : Bx B0 D _ [(tx, .inl (cs 1, 600, .inl f)), (w, .inr (5, [.ref tx, .int (nI ((κ w).2.2.1)), .int (nI tn), .int (nI k1), .int 1, .int (nI k1), .int 0, .int ta, .int tk, .ref co, .int (nI cc), su, .int ec, .int es]))] [w] _ _ := hB.ms (by simp) (fa_c hb1370 fa_n)
            refine lp_m (α := Nat × Nat) (nL := 3) (fun a9 => 600 - a9.1) (fun a9 H9 l9 => (k1 ≤ a9.1 ∧ a9.1 ≤ tn) ∧ (nvl B a9.1 a9.2 = nvl B k1 0 ∧ dgE B a9.1 = dgE B k1) ∧ (Bx B0 D H0 [(tx, .inl (cs 1, 600, .inl f)), (w, .inr (5, [.ref tx, .int (nI ((κ w).2.2.1)), .int (nI tn), .int (nI a9.1), .int 1, .int (nI k1), .int (nI ((min a9.2 1000000))), .int ta, .int tk, .ref co, .int (nI cc), su, .int ec, .int es]))] [w] H9 l9)) (fun a9 => [(0, .ref w), (1, .int (f k1))]) ?_ (k1, 0) _ _ _ ⟨(by show k1 ≤ (k1) ∧ (k1) ≤ tn; omega), ⟨rfl, rfl⟩, hB⟩ (lv_sub hl [1, 0] rfl)
            rintro ⟨k2, u2⟩ H locs ls ih1410 ⟨hk2, hu, hB⟩ hl
            have hl : lv_has ls 3 [(0, .ref w), (1, .int (f k1))] := hl
            have hk2 : k1 ≤ k2 ∧ k2 ≤ tn := hk2
            have hu : nvl B k2 u2 = nvl B k1 0 ∧ dgE B k2 = dgE B k1 := hu
            have hB : Bx B0 D _ [(tx, .inl (cs 1, 600, .inl f)), (w, .inr (5, [.ref tx, .int (nI ((κ w).2.2.1)), .int (nI tn), .int (nI k2), .int 1, .int (nI k1), .int (nI ((min u2 1000000))), .int ta, .int tk, .ref co, .int (nI cc), su, .int ec, .int es]))] [w] _ _ := hB
            refine lv_aload_n hx hb dX5_step_95 rfl (lv_at hl 0 rfl) ?_
            refine va_get (D := D) (ci := 5) (v := .int (nI k2)) (C := RX5) (T := TX5) (N := 14) hx hb hts iX5_step_5 hown hN.1 hB.1 1 rfl rfl 3 (by decide) (hts _ mX5_step_1) (fun _ h9 => h9) rfl dX5_step_96 ?_
            refine lv_aload_n hx hb dX5_step_99 rfl (lv_at hl 0 rfl) ?_
            refine va_get (D := D) (ci := 5) (v := .int (nI tn)) (C := RX5) (T := TX5) (N := 14) hx hb hts iX5_step_5 hown hN.1 hB.1 1 rfl rfl 2 (by decide) (hts _ mX5_step_2) (fun _ h9 => h9) rfl dX5_step_100 ?_
            refine lv_icmp_ge (tgt := 273) hx hb dX5_step_103 (by decide) (fun c1411 => ?_) (fun c1411 => ?_)
            · have c1411 : tn ≤ k2 := (nI_leI (a := tn) (b := k2) (by omega) (by omega)).mp c1411
              have hnd : ¬ isd (B k2) := by rw [hY.end_ (k := k2) (by omega)]; decide
              have hu : u2 = nvl B k1 0 ∧ k2 = dgE B k1 := ⟨(nvl_n hnd).symm.trans hu.1, (run_n (P := isd) hnd).symm.trans hu.2⟩
              have hT : WT B0 D cs T κ _ := hT.close hB ⟨⟨1, _, rfl, ok_6 hw.1 ⟨_, _, _, _, _, _, _, _, _, _, _, _, _, rfl, (by omega), (by omega), (by omega), (by omega), (by omega), t1370_0, t1370_9, c1370_11, c1370_p2⟩⟩, trivial⟩
              have hF : Fr B0 [10] κ H0 _ := hF.close hB (fa_c (by simp [hw.2]) fa_n)
              have hL : OkL B0 _ := hB.2.2.2.2.2
              have hP : va_P D vwCl [(tx, .inl (cs 1, 600, .inl f)), (w, .inr (5, [.ref tx, .int (nI ((κ w).2.2.1)), .int (nI tn), .int (nI k2), .int 1, .int (nI k1), .int (nI ((min u2 1000000))), .int ta, .int tk, .ref co, .int (nI cc), su, .int ec, .int es]))] _ := hB.1
              have hkw : va_at D vwCl (w, .inr (5, [.ref tx, .int (nI ((κ w).2.2.1)), .int (nI tn), .int (nI k2), .int 1, .int (nI k1), .int (nI ((min u2 1000000))), .int ta, .int tk, .ref co, .int (nI cc), su, .int ec, .int es])) _ := hP 1 _ rfl
              have hktx : va_at D vwCl (tx, .inl (cs 1, 600, .inl f)) _ := hP 0 _ rfl
              have hkco := hkco.kept (hB.2.2.2.1 _ hkco.lt (by simp only [List.mem_cons, List.not_mem_nil, or_false, not_or]; exact ne_c hco.1 hw.1 (by decide)))
              obtain ⟨g1, g2, g3⟩ := tk_d hd1
              have g2 : tkV B k1 = nI (min u2 1000000) := by rw [g2, ← hu.1]
              have g3 : tkE B k1 = k2 := g3.trans hu.2.symm
              exact en_v hx hb hr hlocks hL (Nat.zero_le _) (Nat.zero_le _) dX5_step_273 (⟨hT, hF, by rw [hsk, g1, g2, g3]; exact ⟨hkw, hktx, hkco⟩⟩)
            · have c1411 : ¬ tn ≤ k2 := fun h9 => c1411 ((nI_leI (a := tn) (b := k2) (by omega) (by omega)).mpr h9)
              refine lv_aload_n hx hb dX5_step_106 rfl (lv_at hl 0 rfl) ?_
              refine va_get (D := D) (ci := 5) (v := .ref tx) (C := RX5) (T := TX5) (N := 14) hx hb hts iX5_step_5 hown hN.1 hB.1 1 rfl rfl 0 (by decide) (hts _ mX5_step_3) (fun _ h9 => h9) rfl dX5_step_107 ?_
              refine lv_aload_n hx hb dX5_step_110 rfl (lv_at hl 0 rfl) ?_
              refine va_get (D := D) (ci := 5) (v := .int (nI k2)) (C := RX5) (T := TX5) (N := 14) hx hb hts iX5_step_5 hown hN.1 hB.1 1 rfl rfl 3 (by decide) (hts _ mX5_step_1) (fun _ h9 => h9) rfl dX5_step_111 ?_
              refine ld_b (v := (f k2)) hx hb hN hB.1 0 rfl (vp_in_nI (n := k2) (N := 600) (by omega) (by omega)) (by rw [(show ((nI k2) : Int32).toNatClampNeg = k2 from nI_clamp (n := k2) (by omega))]) dX5_step_114 ?_
              refine lv_bipush (v := 48) hx hb dX5_step_115 (by decide) ?_
              refine lv_icmp_lt (tgt := 273) hx hb dX5_step_117 (by decide) (fun c1412 => ?_) (fun c1412 => ?_)
              · have hnd : ¬ isd (B k2) := fun g9 => ((hf.d hY (by omega)).mpr g9).1 c1412
                have hu : u2 = nvl B k1 0 ∧ k2 = dgE B k1 := ⟨(nvl_n hnd).symm.trans hu.1, (run_n (P := isd) hnd).symm.trans hu.2⟩
                have hT : WT B0 D cs T κ _ := hT.close hB ⟨⟨1, _, rfl, ok_6 hw.1 ⟨_, _, _, _, _, _, _, _, _, _, _, _, _, rfl, (by omega), (by omega), (by omega), (by omega), (by omega), t1370_0, t1370_9, c1370_11, c1370_p2⟩⟩, trivial⟩
                have hF : Fr B0 [10] κ H0 _ := hF.close hB (fa_c (by simp [hw.2]) fa_n)
                have hL : OkL B0 _ := hB.2.2.2.2.2
                have hP : va_P D vwCl [(tx, .inl (cs 1, 600, .inl f)), (w, .inr (5, [.ref tx, .int (nI ((κ w).2.2.1)), .int (nI tn), .int (nI k2), .int 1, .int (nI k1), .int (nI ((min u2 1000000))), .int ta, .int tk, .ref co, .int (nI cc), su, .int ec, .int es]))] _ := hB.1
                have hkw : va_at D vwCl (w, .inr (5, [.ref tx, .int (nI ((κ w).2.2.1)), .int (nI tn), .int (nI k2), .int 1, .int (nI k1), .int (nI ((min u2 1000000))), .int ta, .int tk, .ref co, .int (nI cc), su, .int ec, .int es])) _ := hP 1 _ rfl
                have hktx : va_at D vwCl (tx, .inl (cs 1, 600, .inl f)) _ := hP 0 _ rfl
                have hkco := hkco.kept (hB.2.2.2.1 _ hkco.lt (by simp only [List.mem_cons, List.not_mem_nil, or_false, not_or]; exact ne_c hco.1 hw.1 (by decide)))
                obtain ⟨g1, g2, g3⟩ := tk_d hd1
                have g2 : tkV B k1 = nI (min u2 1000000) := by rw [g2, ← hu.1]
                have g3 : tkE B k1 = k2 := g3.trans hu.2.symm
                exact en_v hx hb hr hlocks hL (Nat.zero_le _) (Nat.zero_le _) dX5_step_273 (⟨hT, hF, by rw [hsk, g1, g2, g3]; exact ⟨hkw, hktx, hkco⟩⟩)
              · refine lv_aload_n hx hb dX5_step_120 rfl (lv_at hl 0 rfl) ?_
                refine va_get (D := D) (ci := 5) (v := .ref tx) (C := RX5) (T := TX5) (N := 14) hx hb hts iX5_step_5 hown hN.1 hB.1 1 rfl rfl 0 (by decide) (hts _ mX5_step_3) (fun _ h9 => h9) rfl dX5_step_121 ?_
                refine lv_aload_n hx hb dX5_step_124 rfl (lv_at hl 0 rfl) ?_
                refine va_get (D := D) (ci := 5) (v := .int (nI k2)) (C := RX5) (T := TX5) (N := 14) hx hb hts iX5_step_5 hown hN.1 hB.1 1 rfl rfl 3 (by decide) (hts _ mX5_step_1) (fun _ h9 => h9) rfl dX5_step_125 ?_
                refine ld_b (v := (f k2)) hx hb hN hB.1 0 rfl (vp_in_nI (n := k2) (N := 600) (by omega) (by omega)) (by rw [(show ((nI k2) : Int32).toNatClampNeg = k2 from nI_clamp (n := k2) (by omega))]) dX5_step_128 ?_
                refine lv_bipush (v := 57) hx hb dX5_step_129 (by decide) ?_
                refine lv_icmp_gt (tgt := 273) hx hb dX5_step_131 (by decide) (fun c1413 => ?_) (fun c1413 => ?_)
                · have hnd : ¬ isd (B k2) := fun g9 => ((hf.d hY (by omega)).mpr g9).2 c1413
                  have hu : u2 = nvl B k1 0 ∧ k2 = dgE B k1 := ⟨(nvl_n hnd).symm.trans hu.1, (run_n (P := isd) hnd).symm.trans hu.2⟩
                  have hT : WT B0 D cs T κ _ := hT.close hB ⟨⟨1, _, rfl, ok_6 hw.1 ⟨_, _, _, _, _, _, _, _, _, _, _, _, _, rfl, (by omega), (by omega), (by omega), (by omega), (by omega), t1370_0, t1370_9, c1370_11, c1370_p2⟩⟩, trivial⟩
                  have hF : Fr B0 [10] κ H0 _ := hF.close hB (fa_c (by simp [hw.2]) fa_n)
                  have hL : OkL B0 _ := hB.2.2.2.2.2
                  have hP : va_P D vwCl [(tx, .inl (cs 1, 600, .inl f)), (w, .inr (5, [.ref tx, .int (nI ((κ w).2.2.1)), .int (nI tn), .int (nI k2), .int 1, .int (nI k1), .int (nI ((min u2 1000000))), .int ta, .int tk, .ref co, .int (nI cc), su, .int ec, .int es]))] _ := hB.1
                  have hkw : va_at D vwCl (w, .inr (5, [.ref tx, .int (nI ((κ w).2.2.1)), .int (nI tn), .int (nI k2), .int 1, .int (nI k1), .int (nI ((min u2 1000000))), .int ta, .int tk, .ref co, .int (nI cc), su, .int ec, .int es])) _ := hP 1 _ rfl
                  have hktx : va_at D vwCl (tx, .inl (cs 1, 600, .inl f)) _ := hP 0 _ rfl
                  have hkco := hkco.kept (hB.2.2.2.1 _ hkco.lt (by simp only [List.mem_cons, List.not_mem_nil, or_false, not_or]; exact ne_c hco.1 hw.1 (by decide)))
                  obtain ⟨g1, g2, g3⟩ := tk_d hd1
                  have g2 : tkV B k1 = nI (min u2 1000000) := by rw [g2, ← hu.1]
                  have g3 : tkE B k1 = k2 := g3.trans hu.2.symm
                  exact en_v hx hb hr hlocks hL (Nat.zero_le _) (Nat.zero_le _) dX5_step_273 (⟨hT, hF, by rw [hsk, g1, g2, g3]; exact ⟨hkw, hktx, hkco⟩⟩)
                · have hdd : isd (B k2) := (hf.d hY (by omega)).mp ⟨c1412, c1413⟩
                  refine lv_bipush (v := 10) hx hb dX5_step_134 (by decide) ?_
                  refine lv_aload_n hx hb dX5_step_136 rfl (lv_at hl 0 rfl) ?_
                  refine va_get (D := D) (ci := 5) (v := .int (nI ((min u2 1000000)))) (C := RX5) (T := TX5) (N := 14) hx hb hts iX5_step_5 hown hN.1 hB.1 1 rfl rfl 6 (by decide) (hts _ mX5_step_5) (fun _ h9 => h9) rfl dX5_step_137 ?_
                  refine lv_imul hx hb dX5_step_140 ?_
                  refine tp_i (nI (10 * ((min u2 1000000)))) (nI_mul 10 ((min u2 1000000))) ?_
                  refine lv_aload_n hx hb dX5_step_141 rfl (lv_at hl 0 rfl) ?_
                  refine va_get (D := D) (ci := 5) (v := .ref tx) (C := RX5) (T := TX5) (N := 14) hx hb hts iX5_step_5 hown hN.1 hB.1 1 rfl rfl 0 (by decide) (hts _ mX5_step_3) (fun _ h9 => h9) rfl dX5_step_142 ?_
                  refine lv_aload_n hx hb dX5_step_145 rfl (lv_at hl 0 rfl) ?_
                  refine va_get (D := D) (ci := 5) (v := .int (nI k2)) (C := RX5) (T := TX5) (N := 14) hx hb hts iX5_step_5 hown hN.1 hB.1 1 rfl rfl 3 (by decide) (hts _ mX5_step_1) (fun _ h9 => h9) rfl dX5_step_146 ?_
                  refine ld_b (v := (f k2)) hx hb hN hB.1 0 rfl (vp_in_nI (n := k2) (N := 600) (by omega) (by omega)) (by rw [(show ((nI k2) : Int32).toNatClampNeg = k2 from nI_clamp (n := k2) (by omega))]) dX5_step_149 ?_
                  refine lv_iadd hx hb dX5_step_150 ?_
                  refine lv_bipush (v := 48) hx hb dX5_step_151 (by decide) ?_
                  refine lv_isub hx hb dX5_step_153 ?_
                  refine tp_i (nI ((10 * min u2 1000000 + dg (B k2)))) (dg_ar hY hf hdd) ?_
                  have hdg := dg_lt hY hdd
                  refine lv_istore_n (lv' := [(2, .int (nI ((10 * min u2 1000000 + dg (B k2))))), (0, .ref w), (1, .int (f k1))]) hx hb dX5_step_154 rfl hl (by decide) rfl (fun ls hl => ?_)
                  refine lv_aload_n hx hb dX5_step_155 rfl (lv_at hl 1 rfl) ?_
                  refine lv_iload_n hx hb dX5_step_156 rfl (lv_at hl 0 rfl) ?_
                  refine lv_ldc (v := 1000000) hx hb hown (hts _ mX5_step_7) dX5_step_157 ?_
                  refine lv_icmp_ge (tgt := 166) hx hb dX5_step_159 (by decide) (fun c1414 => ?_) (fun c1414 => ?_)
                  · have c1414 : 1000000 ≤ ((10 * min u2 1000000 + dg (B k2))) := (nI_leI (a := 1000000) (b := ((10 * min u2 1000000 + dg (B k2)))) (by omega) (by omega)).mp c1414
                    refine lv_ldc (v := 1000000) hx hb hown (hts _ mX5_step_7) dX5_step_166 ?_
                    refine tp_i (nI (min (10 * u2 + dg (B k2)) 1000000)) (by rw [show min (10 * u2 + dg (B k2)) 1000000 = 1000000 by omega]; rfl) ?_
                    refine b_put (D := D) (ci := 5) (v := .int (nI ((min (10 * u2 + dg (B k2)) 1000000)))) (ty := .int) (C := RX5) (T := TX5) (N := 14) hx hb hts iX5_step_5 tyX5 tyX5_ok nmX5 hown hN hB 1 rfl rfl 6 (by decide) (hts _ mX5_step_5) (fun _ h9 => h9) rfl (by decide +kernel) rfl rfl (Nat.le_of_ble_eq_true rfl) (.inr ⟨rfl, List.mem_of_getElem? (i := 0) rfl⟩) dX5_step_168 (fun H locs hB => ?_)
                    have hB : Bx B0 D _ [(tx, .inl (cs 1, 600, .inl f)), (w, .inr (5, [.ref tx, .int (nI ((κ w).2.2.1)), .int (nI tn), .int (nI k2), .int 1, .int (nI k1), .int (nI ((min (10 * u2 + dg (B k2)) 1000000))), .int ta, .int tk, .ref co, .int (nI cc), su, .int ec, .int es]))] [w] _ _ := hB
                    refine lv_aload_n hx hb dX5_step_171 rfl (lv_at hl 1 rfl) ?_
                    refine lv_dup hx hb dX5_step_172 rfl ?_
                    refine va_get (D := D) (ci := 5) (v := .int (nI k2)) (C := RX5) (T := TX5) (N := 14) hx hb hts iX5_step_5 hown hN.1 hB.1 1 rfl rfl 3 (by decide) (hts _ mX5_step_1) (fun _ h9 => h9) rfl dX5_step_173 ?_
                    refine lv_iconst (v := 1) hx hb dX5_step_176 (by decide) ?_
                    refine lv_iadd hx hb dX5_step_177 ?_
                    refine tp_i (nI (k2 + 1)) (nI_add k2 1) ?_
                    refine b_put (D := D) (ci := 5) (v := .int (nI (k2 + 1))) (ty := .int) (C := RX5) (T := TX5) (N := 14) hx hb hts iX5_step_5 tyX5 tyX5_ok nmX5 hown hN hB 1 rfl rfl 3 (by decide) (hts _ mX5_step_1) (fun _ h9 => h9) rfl (by decide +kernel) rfl rfl (Nat.le_of_ble_eq_true rfl) (.inr ⟨rfl, List.mem_of_getElem? (i := 0) rfl⟩) dX5_step_178 (fun H locs hB => ?_)
                    have hB : Bx B0 D _ [(tx, .inl (cs 1, 600, .inl f)), (w, .inr (5, [.ref tx, .int (nI ((κ w).2.2.1)), .int (nI tn), .int (nI (k2 + 1)), .int 1, .int (nI k1), .int (nI ((min (10 * u2 + dg (B k2)) 1000000))), .int ta, .int tk, .ref co, .int (nI cc), su, .int ec, .int es]))] [w] _ _ := hB
                    refine lv_goto (tgt := 95) hx hb dX5_step_181 (by decide) ?_
                    exact ih1410 ((k2 + 1), (10 * u2 + dg (B k2))) _ _ _ (by show 600 - ((k2 + 1)) < 600 - k2; omega) ⟨(by show k1 ≤ ((k2 + 1)) ∧ ((k2 + 1)) ≤ tn; omega), ⟨(nvl_y hdd (by omega)).symm.trans hu.1, (run_y (P := isd) hdd (by omega)).symm.trans hu.2⟩, hB⟩ (lv_sub hl [1, 2] rfl)
                  · have c1414 : ¬ 1000000 ≤ ((10 * min u2 1000000 + dg (B k2))) := fun h9 => c1414 ((nI_leI (a := 1000000) (b := ((10 * min u2 1000000 + dg (B k2)))) (by omega) (by omega)).mpr h9)
                    refine lv_iload_n hx hb dX5_step_162 rfl (lv_at hl 0 rfl) ?_
                    refine lv_goto (tgt := 168) hx hb dX5_step_163 (by decide) ?_
                    refine tp_i (nI (min (10 * u2 + dg (B k2)) 1000000)) (by rw [show min (10 * u2 + dg (B k2)) 1000000 = 10 * min u2 1000000 + dg (B k2) by omega]) ?_
                    refine b_put (D := D) (ci := 5) (v := .int (nI ((min (10 * u2 + dg (B k2)) 1000000)))) (ty := .int) (C := RX5) (T := TX5) (N := 14) hx hb hts iX5_step_5 tyX5 tyX5_ok nmX5 hown hN hB 1 rfl rfl 6 (by decide) (hts _ mX5_step_5) (fun _ h9 => h9) rfl (by decide +kernel) rfl rfl (Nat.le_of_ble_eq_true rfl) (.inr ⟨rfl, List.mem_of_getElem? (i := 0) rfl⟩) dX5_step_168 (fun H locs hB => ?_)
                    have hB : Bx B0 D _ [(tx, .inl (cs 1, 600, .inl f)), (w, .inr (5, [.ref tx, .int (nI ((κ w).2.2.1)), .int (nI tn), .int (nI k2), .int 1, .int (nI k1), .int (nI ((min (10 * u2 + dg (B k2)) 1000000))), .int ta, .int tk, .ref co, .int (nI cc), su, .int ec, .int es]))] [w] _ _ := hB
                    refine lv_aload_n hx hb dX5_step_171 rfl (lv_at hl 1 rfl) ?_
                    refine lv_dup hx hb dX5_step_172 rfl ?_
                    refine va_get (D := D) (ci := 5) (v := .int (nI k2)) (C := RX5) (T := TX5) (N := 14) hx hb hts iX5_step_5 hown hN.1 hB.1 1 rfl rfl 3 (by decide) (hts _ mX5_step_1) (fun _ h9 => h9) rfl dX5_step_173 ?_
                    refine lv_iconst (v := 1) hx hb dX5_step_176 (by decide) ?_
                    refine lv_iadd hx hb dX5_step_177 ?_
                    refine tp_i (nI (k2 + 1)) (nI_add k2 1) ?_
                    refine b_put (D := D) (ci := 5) (v := .int (nI (k2 + 1))) (ty := .int) (C := RX5) (T := TX5) (N := 14) hx hb hts iX5_step_5 tyX5 tyX5_ok nmX5 hown hN hB 1 rfl rfl 3 (by decide) (hts _ mX5_step_1) (fun _ h9 => h9) rfl (by decide +kernel) rfl rfl (Nat.le_of_ble_eq_true rfl) (.inr ⟨rfl, List.mem_of_getElem? (i := 0) rfl⟩) dX5_step_178 (fun H locs hB => ?_)
                    have hB : Bx B0 D _ [(tx, .inl (cs 1, 600, .inl f)), (w, .inr (5, [.ref tx, .int (nI ((κ w).2.2.1)), .int (nI tn), .int (nI (k2 + 1)), .int 1, .int (nI k1), .int (nI ((min (10 * u2 + dg (B k2)) 1000000))), .int ta, .int tk, .ref co, .int (nI cc), su, .int ec, .int es]))] [w] _ _ := hB
                    refine lv_goto (tgt := 95) hx hb dX5_step_181 (by decide) ?_
                    exact ih1410 ((k2 + 1), (10 * u2 + dg (B k2))) _ _ _ (by show 600 - ((k2 + 1)) < 600 - k2; omega) ⟨(by show k1 ≤ ((k2 + 1)) ∧ ((k2 + 1)) ≤ tn; omega), ⟨(nvl_y hdd (by omega)).symm.trans hu.1, (run_y (P := isd) hdd (by omega)).symm.trans hu.2⟩, hB⟩ (lv_sub hl [1, 2] rfl)
      · have c1395 : ¬ k1 < tn := fun h9 => c1395 ((nI_ltI (a := k1) (b := tn) (by omega) (by omega)).mpr h9)
        refine lv_aload_n hx hb dX5_step_62 rfl (lv_at hl 0 rfl) ?_
        refine lv_iconst (v := 0) hx hb dX5_step_63 (by decide) ?_
        refine b_put (D := D) (ci := 5) (v := .int 0) (ty := .int) (C := RX5) (T := TX5) (N := 14) hx hb hts iX5_step_5 tyX5 tyX5_ok nmX5 hown hN hB 1 rfl rfl 4 (by decide) (hts _ mX5_step_6) (fun _ h9 => h9) rfl (by decide +kernel) rfl rfl (Nat.le_of_ble_eq_true rfl) (.inr ⟨rfl, List.mem_of_getElem? (i := 0) rfl⟩) dX5_step_64 (fun H locs hB => ?_)
        have hB : Bx B0 D _ [(tx, .inl (cs 1, 600, .inl f)), (w, .inr (5, [.ref tx, .int (nI ((κ w).2.2.1)), .int (nI tn), .int (nI k1), .int 0, .int (nI k1), .int 0, .int ta, .int tk, .ref co, .int (nI cc), su, .int ec, .int es]))] [w] _ _ := hB
        have hT : WT B0 D cs T κ _ := hT.close hB ⟨⟨1, _, rfl, ok_6 hw.1 ⟨_, _, _, _, _, _, _, _, _, _, _, _, _, rfl, (by omega), (by omega), (by omega), (by omega), (by omega), t1370_0, t1370_9, c1370_11, c1370_p2⟩⟩, trivial⟩
        have hF : Fr B0 [10] κ H0 _ := hF.close hB (fa_c (by simp [hw.2]) fa_n)
        have hL : OkL B0 _ := hB.2.2.2.2.2
        have hP : va_P D vwCl [(tx, .inl (cs 1, 600, .inl f)), (w, .inr (5, [.ref tx, .int (nI ((κ w).2.2.1)), .int (nI tn), .int (nI k1), .int 0, .int (nI k1), .int 0, .int ta, .int tk, .ref co, .int (nI cc), su, .int ec, .int es]))] _ := hB.1
        have hkw : va_at D vwCl (w, .inr (5, [.ref tx, .int (nI ((κ w).2.2.1)), .int (nI tn), .int (nI k1), .int 0, .int (nI k1), .int 0, .int ta, .int tk, .ref co, .int (nI cc), su, .int ec, .int es])) _ := hP 1 _ rfl
        have hktx : va_at D vwCl (tx, .inl (cs 1, 600, .inl f)) _ := hP 0 _ rfl
        have hkco := hkco.kept (hB.2.2.2.1 _ hkco.lt (by simp only [List.mem_cons, List.not_mem_nil, or_false, not_or]; exact ne_c hco.1 hw.1 (by decide)))
        obtain ⟨g1, g2, g3⟩ := tk_e (hY.end_ (k := k1) (by omega))
        exact en_v hx hb hr hlocks hL (Nat.zero_le _) (Nat.zero_le _) dX5_step_67 (⟨hT, hF, by rw [hsk, g1, g2, g3]; exact ⟨hkw, hktx, hkco⟩⟩)
    · have h32 := (hf.eq hY (c := 32) (k := k1) (by omega) (by decide)).mp c1394
      refine lv_aload_n hx hb dX5_step_25 rfl (lv_at hl 0 rfl) ?_
      refine lv_dup hx hb dX5_step_26 rfl ?_
      refine va_get (D := D) (ci := 5) (v := .int (nI k1)) (C := RX5) (T := TX5) (N := 14) hx hb hts iX5_step_5 hown hN.1 hB.1 1 rfl rfl 3 (by decide) (hts _ mX5_step_1) (fun _ h9 => h9) rfl dX5_step_27 ?_
      refine lv_iconst (v := 1) hx hb dX5_step_30 (by decide) ?_
      refine lv_iadd hx hb dX5_step_31 ?_
      refine tp_i (nI (k1 + 1)) (nI_add k1 1) ?_
      refine b_put (D := D) (ci := 5) (v := .int (nI (k1 + 1))) (ty := .int) (C := RX5) (T := TX5) (N := 14) hx hb hts iX5_step_5 tyX5 tyX5_ok nmX5 hown hN hB 1 rfl rfl 3 (by decide) (hts _ mX5_step_1) (fun _ h9 => h9) rfl (by decide +kernel) rfl rfl (Nat.le_of_ble_eq_true rfl) (.inr ⟨rfl, List.mem_of_getElem? (i := 0) rfl⟩) dX5_step_32 (fun H locs hB => ?_)
      have hB : Bx B0 D _ [(tx, .inl (cs 1, 600, .inl f)), (w, .inr (5, [.ref tx, .int (nI ((κ w).2.2.1)), .int (nI tn), .int (nI (k1 + 1)), .int k0, .int (nI s0), .int v0, .int ta, .int tk, .ref co, .int (nI cc), su, .int ec, .int es]))] [w] _ _ := hB
      refine lv_goto (tgt := 0) hx hb dX5_step_35 (by decide) ?_
      exact ih1372 (k1 + 1) _ _ _ (by show 600 - ((k1 + 1)) < 600 - k1; omega) ⟨(by show pz ≤ ((k1 + 1)) ∧ ((k1 + 1)) ≤ tn; omega), ((run_y (P := fun x => x = 32) h32 (by omega)).symm.trans hk), hB⟩ (lv_sub hl [0] rfl)
theorem mX5_isMark_1 : (.fieldLink RX5 73 "OneBeat$Reader" "kind" "I" : Cond) ∈ wsX5_isMark := List.mem_of_getElem? (i := 1) (by decide +kernel)
theorem iX5_isMark_5 : ∀ w ∈ wsX50, w ∈ wsX5_isMark := fun w h => List.mem_of_mem_drop (List.mem_of_mem_take ((show wsX50 = (wsX5_isMark.drop 3).take 14 by decide +kernel) ▸ h))
theorem mX5_isMark_2 : (.fieldLink RX5 175 "OneBeat$Reader" "value" "I" : Cond) ∈ wsX5_isMark := List.mem_of_getElem? (i := 2) (by decide +kernel)
set_option maxHeartbeats 4000000 in
set_option maxRecDepth 100000 in
theorem c_X5_isMark {l : Launch} {D : va_G} {cs : Nat → ClassId} {B0 T : Nat} {κ : KM} {H0 : Heap} (hT : WT B0 D cs T κ H0) {ch : Nat} {w : Nat} (hw : T2 κ w 6 10) {tx co tn cc : Nat} {f cf B : Nat → Int32} {ta tk ec es : Int32} {su : Value} (hY : BY B tn) (hf : TXB f B tn) (hcc : cc ≤ 600) {z : Nat} (hz : z ≤ tn) (hrs : RS D cs w H0 tx f co cf (κ w).2.2.1 tn (tkE B z) (tkK B z) z (tkV B z) ta tk cc su ec es) (hch : MK ch) : KC l yX5_isMark wsX5_isMark 0 0 0 0 D cs B0 H0 [.ref w, .int (nI ch)] (Qi (fun r H => H = H0 ∧ ((r = 1 ∧ B z = nI ch) ∨ (r = 0 ∧ ¬ B z = nI ch)))) := by
  refine KC.of cX5_isMark 2 (some .boolean) (by decide) rfl (Nat.le_of_ble_eq_true rfl) ?_
  intro p e s m below meth c ls hx hb hr hml hown hts hlocks hin hN hE hH0 hl
  have hown : s.vm.findClass RX5 = some m.cls := hown
  have hl : lv_has ls 2 [(0, .ref w), (1, .int (nI ch))] := hl
  have hL : OkL B0 [] := OkL.nil
  obtain ⟨hkw, hktx, hkco⟩ := hrs
  have h6n := hY.1
  obtain ⟨htx, hco⟩ : T2 κ tx 16 10 ∧ T2 κ co 17 10 := RS.t2 hT hw hkw
  have hzE := tkE_le hY (s := z) (by omega)
  refine lv_aload_n hx hb dX5_isMark_0 rfl (lv_at hl 0 rfl) ?_
  obtain ⟨hb1415, e1415, hat1415, hk1415⟩ := hT.o6 hw.1
  obtain ⟨f1415_0, f1415_2, f1415_3, f1415_4, f1415_5, f1415_6, f1415_7, f1415_8, f1415_9, f1415_10, f1415_11, f1415_12, f1415_13, rfl, c1415_1, c1415_2, c1415_3, c1415_5, c1415_10, t1415_0, t1415_9, c1415_11, c1415_p2⟩ := hk1415
  obtain ⟨rfl, rfl, rfl, rfl, rfl, rfl, rfl, rfl, rfl, rfl, rfl, rfl, rfl⟩ := eq6 hat1415 hkw (by omega)
  have hP : va_P D vwCl [(w, .inr (5, [.ref tx, .int (nI ((κ w).2.2.1)), .int (nI tn), .int (nI ((tkE B z))), .int (tkK B z), .int (nI z), .int (tkV B z), .int ta, .int tk, .ref co, .int (nI cc), su, .int ec, .int es]))] _ := va_P.cons hat1415 va_P.nil
  refine va_get (D := D) (ci := 5) (v := .int (tkK B z)) (C := RX5) (T := TX5) (N := 14) hx hb hts iX5_isMark_5 hown hN.1 hP 0 rfl rfl 4 (by decide) (hts _ mX5_isMark_1) (fun _ h9 => h9) rfl dX5_isMark_1 ?_
  refine lv_iconst (v := 3) hx hb dX5_isMark_4 (by decide) ?_
  refine lv_icmp_ne (tgt := 20) hx hb dX5_isMark_5 (by decide) (fun c1416 => ?_) (fun c1416 => ?_)
  · refine lv_iconst (v := 0) hx hb dX5_isMark_20 (by decide) ?_
    exact en_i hx hb hr hlocks hL rfl (Nat.zero_le _) (Nat.zero_le _) dX5_isMark_21 (⟨rfl, Or.inr ⟨rfl, fun e9 => c1416 ((tk_mark hY hch).mpr e9).1⟩⟩)
  · refine lv_aload_n hx hb dX5_isMark_8 rfl (lv_at hl 0 rfl) ?_
    refine va_get (D := D) (ci := 5) (v := .int (tkV B z)) (C := RX5) (T := TX5) (N := 14) hx hb hts iX5_isMark_5 hown hN.1 hP 0 rfl rfl 6 (by decide) (hts _ mX5_isMark_2) (fun _ h9 => h9) rfl dX5_isMark_9 ?_
    refine lv_iload_n hx hb dX5_isMark_12 rfl (lv_at hl 1 rfl) ?_
    refine lv_icmp_ne (tgt := 20) hx hb dX5_isMark_13 (by decide) (fun c1417 => ?_) (fun c1417 => ?_)
    · refine lv_iconst (v := 0) hx hb dX5_isMark_20 (by decide) ?_
      exact en_i hx hb hr hlocks hL rfl (Nat.zero_le _) (Nat.zero_le _) dX5_isMark_21 (⟨rfl, Or.inr ⟨rfl, fun e9 => c1417 ((tk_mark hY hch).mpr e9).2⟩⟩)
    · refine lv_iconst (v := 1) hx hb dX5_isMark_16 (by decide) ?_
      refine lv_goto (tgt := 21) hx hb dX5_isMark_17 (by decide) ?_
      exact en_i hx hb hr hlocks hL rfl (Nat.zero_le _) (Nat.zero_le _) dX5_isMark_21 (⟨rfl, Or.inl ⟨rfl, (tk_mark hY hch).mp ⟨c1416, c1417⟩⟩⟩)
theorem mX5_isWord_1 : (.fieldLink RX5 73 "OneBeat$Reader" "kind" "I" : Cond) ∈ wsX5_isWord := List.mem_of_getElem? (i := 1) (by decide +kernel)
theorem iX5_isWord_5 : ∀ w ∈ wsX50, w ∈ wsX5_isWord := fun w h => List.mem_of_mem_drop (List.mem_of_mem_take ((show wsX50 = (wsX5_isWord.drop 54).take 14 by decide +kernel) ▸ h))
theorem mX5_isWord_2 : (.fieldLink RX5 35 "OneBeat$Reader" "position" "I" : Cond) ∈ wsX5_isWord := List.mem_of_getElem? (i := 2) (by decide +kernel)
theorem mX5_isWord_3 : (.fieldLink RX5 124 "OneBeat$Reader" "start" "I" : Cond) ∈ wsX5_isWord := List.mem_of_getElem? (i := 3) (by decide +kernel)
theorem hdJ0_length_8abf5_v : yJ0_length_8abf5.cls = RJ0 ∧ yJ0_length_8abf5.cls ≠ "java/lang/invoke/MethodHandle" ∧ yJ0_length_8abf5.cls ≠ "java/lang/invoke/VarHandle" ∧ (parseMethodDescriptor yJ0_length_8abf5.desc).map (fun d => d.parameters.length) = some 0 := by decide +kernel
theorem mX5_isWord_4 : (.fieldLink RX5 11 "OneBeat$Reader" "text" "[B" : Cond) ∈ wsX5_isWord := List.mem_of_getElem? (i := 4) (by decide +kernel)
theorem hdJ0_charAt_5068e_v : yJ0_charAt_5068e.cls = RJ0 ∧ yJ0_charAt_5068e.cls ≠ "java/lang/invoke/MethodHandle" ∧ yJ0_charAt_5068e.cls ≠ "java/lang/invoke/VarHandle" ∧ (parseMethodDescriptor yJ0_charAt_5068e.desc).map (fun d => d.parameters.length) = some 1 := by decide +kernel
set_option maxHeartbeats 4000000 in
set_option maxRecDepth 100000 in
theorem c_X5_isWord {l : Launch} {D : va_G} {cs : Nat → ClassId} {B0 T : Nat} {κ : KM} {H0 : Heap} (hT : WT B0 D cs T κ H0) {w : Nat} (hw : T2 κ w 6 10) {i : Nat} (hi9 : i ∈ nW) {tx co tn cc : Nat} {f cf B : Nat → Int32} {ta tk ec es : Int32} {su : Value} (hY : BY B tn) (hf : TXB f B tn) (hcc : cc ≤ 600) {z : Nat} (hz : z ≤ tn) (hrs : RS D cs w H0 tx f co cf (κ w).2.2.1 tn (tkE B z) (tkK B z) z (tkV B z) ta tk cc su ec es) : KC l yX5_isWord wsX5_isWord 4 85 0 0 D cs B0 H0 [.ref w, .ref (cs (100 + i))] (Qi (fun r H => H = H0 ∧ ((r = 1 ∧ isW B i z) ∨ (r = 0 ∧ ¬ isW B i z)))) := by
  refine KC.of cX5_isWord 3 (some .boolean) (by decide) rfl (Nat.le_of_ble_eq_true rfl) ?_
  intro p e s m below meth c ls hx hb hr hml hown hts hlocks hin hN hE hH0 hl
  have hown : s.vm.findClass RX5 = some m.cls := hown
  have hl : lv_has ls 3 [(0, .ref w), (1, .ref (cs (100 + i)))] := hl
  have hL : OkL B0 [] := OkL.nil
  obtain ⟨hkw, hktx, hkco⟩ := hrs
  have h6n := hY.1
  obtain ⟨htx, hco⟩ : T2 κ tx 16 10 ∧ T2 κ co 17 10 := RS.t2 hT hw hkw
  have hzE := tkE_le hY (s := z) (by omega)
  refine lv_aload_n hx hb dX5_isWord_0 rfl (lv_at hl 0 rfl) ?_
  obtain ⟨hb1418, e1418, hat1418, hk1418⟩ := hT.o6 hw.1
  obtain ⟨f1418_0, f1418_2, f1418_3, f1418_4, f1418_5, f1418_6, f1418_7, f1418_8, f1418_9, f1418_10, f1418_11, f1418_12, f1418_13, rfl, c1418_1, c1418_2, c1418_3, c1418_5, c1418_10, t1418_0, t1418_9, c1418_11, c1418_p2⟩ := hk1418
  obtain ⟨rfl, rfl, rfl, rfl, rfl, rfl, rfl, rfl, rfl, rfl, rfl, rfl, rfl⟩ := eq6 hat1418 hkw (by omega)
  have hP : va_P D vwCl [(w, .inr (5, [.ref tx, .int (nI ((κ w).2.2.1)), .int (nI tn), .int (nI ((tkE B z))), .int (tkK B z), .int (nI z), .int (tkV B z), .int ta, .int tk, .ref co, .int (nI cc), su, .int ec, .int es]))] _ := va_P.cons hat1418 va_P.nil
  refine va_get (D := D) (ci := 5) (v := .int (tkK B z)) (C := RX5) (T := TX5) (N := 14) hx hb hts iX5_isWord_5 hown hN.1 hP 0 rfl rfl 4 (by decide) (hts _ mX5_isWord_1) (fun _ h9 => h9) rfl dX5_isWord_1 ?_
  refine lv_iconst (v := 2) hx hb dX5_isWord_4 (by decide) ?_
  refine lv_icmp_ne (tgt := 36) hx hb dX5_isWord_5 (by decide) (fun c1419 => ?_) (fun c1419 => ?_)
  · have hnw : ¬ isW B i z := fun g9 => c1419 (tkK_2.mpr (isW_le hY hi9 g9).1)
    refine lv_iconst (v := 0) hx hb dX5_isWord_36 (by decide) ?_
    exact en_i hx hb hr hlocks hL rfl (Nat.zero_le _) (Nat.zero_le _) dX5_isWord_37 (⟨rfl, Or.inr ⟨rfl, hnw⟩⟩)
  · have hl1 := tkK_2.mp c1419
    have hE9 : tkE B z = ltE B z := (tk_l hl1).2.2
    refine lv_aload_n hx hb dX5_isWord_8 rfl (lv_at hl 0 rfl) ?_
    refine va_get (D := D) (ci := 5) (v := .int (nI ((tkE B z)))) (C := RX5) (T := TX5) (N := 14) hx hb hts iX5_isWord_5 hown hN.1 hP 0 rfl rfl 3 (by decide) (hts _ mX5_isWord_2) (fun _ h9 => h9) rfl dX5_isWord_9 ?_
    refine lv_aload_n hx hb dX5_isWord_12 rfl (lv_at hl 0 rfl) ?_
    refine va_get (D := D) (ci := 5) (v := .int (nI z)) (C := RX5) (T := TX5) (N := 14) hx hb hts iX5_isWord_5 hown hN.1 hP 0 rfl rfl 5 (by decide) (hts _ mX5_isWord_3) (fun _ h9 => h9) rfl dX5_isWord_13 ?_
    refine lv_isub hx hb dX5_isWord_16 ?_
    refine tp_i (nI (((tkE B z)) - z)) (nI_subN (a := ((tkE B z))) (b := z) (by omega)) ?_
    refine lv_aload_n hx hb dX5_isWord_17 rfl (lv_at hl 1 rfl) ?_
    refine W.old hL (fun hold => ?_)
    refine cv_i (As := []) (rest := [.int (nI (((tkE B z)) - z))]) (b := (cs (100 + i))) ⟨hx, hb, hml, hown, hts⟩ (c_J0_length_8abf5 hT (i := i) hi9) (cwV 0 hts gX5_isWord_J0_length_8abf5 rfl rfl rfl hdJ0_length_8abf5_v ⟨Nat.le_of_ble_eq_true rfl, Nat.le_of_ble_eq_true rfl⟩) hN hE hL (sx_rec (hE.2.1 _ hi9) hold) rfl rfl hl.1 (Nat.le_of_ble_eq_true rfl) dX5_isWord_18 (Nat.zero_le _) (Nat.zero_le _) (fun r1420 H1 locs hL hqr1420 => ?_)
    obtain ⟨h9, hqr1420⟩ := hqr1420; replace h9 := h9.symm; subst h9
    obtain rfl := hqr1420
    have hn9 := nT_le _ hi9
    refine lv_icmp_ne (tgt := 36) hx hb dX5_isWord_21 (by decide) (fun c1421 => ?_) (fun c1421 => ?_)
    · have c1421 : ¬ (((tkE B z)) - z) = (nT i) := fun h9 => c1421 ((nI_eq (a := (((tkE B z)) - z)) (b := (nT i)) (by omega) (by omega)).mpr h9)
      have hnw : ¬ isW B i z := fun g9 => by have h8 := (isW_le hY hi9 g9).2; omega
      refine lv_iconst (v := 0) hx hb dX5_isWord_36 (by decide) ?_
      exact en_i hx hb hr hlocks hL rfl (Nat.zero_le _) (Nat.zero_le _) dX5_isWord_37 (⟨rfl, Or.inr ⟨rfl, hnw⟩⟩)
    · have c1421 : (((tkE B z)) - z) = (nT i) := (nI_eq (a := (((tkE B z)) - z)) (b := (nT i)) (by omega) (by omega)).mp c1421
      refine lv_aload_n hx hb dX5_isWord_24 rfl (lv_at hl 0 rfl) ?_
      refine va_get (D := D) (ci := 5) (v := .int (nI ((tkE B z)))) (C := RX5) (T := TX5) (N := 14) hx hb hts iX5_isWord_5 hown hN.1 hP 0 rfl rfl 3 (by decide) (hts _ mX5_isWord_2) (fun _ h9 => h9) rfl dX5_isWord_25 ?_
      refine lv_aload_n hx hb dX5_isWord_28 rfl (lv_at hl 0 rfl) ?_
      refine va_get (D := D) (ci := 5) (v := .ref tx) (C := RX5) (T := TX5) (N := 14) hx hb hts iX5_isWord_5 hown hN.1 hP 0 rfl rfl 0 (by decide) (hts _ mX5_isWord_4) (fun _ h9 => h9) rfl dX5_isWord_29 ?_
      obtain ⟨hb1422, e1422, hat1422, hk1422⟩ := hT.o16 t1418_0.1
      have hat1422 := hktx
      have hP : va_P D vwCl [(tx, .inl (cs 1, 600, .inl f)), (w, .inr (5, [.ref tx, .int (nI ((κ w).2.2.1)), .int (nI tn), .int (nI ((tkE B z))), .int (tkK B z), .int (nI z), .int (tkV B z), .int ta, .int tk, .ref co, .int (nI cc), su, .int ec, .int es]))] _ := va_P.cons hat1422 hP
      refine va_alen (v := 600) hx hb hN.1 hP 0 1 rfl rfl rfl dX5_isWord_32 ?_
      refine lv_icmp_le (tgt := 38) hx hb dX5_isWord_33 (by decide) (fun c1423 => ?_) (fun c1423 => ?_)
      · have c1423 : ((tkE B z)) ≤ 600 := (nI_leI (a := ((tkE B z))) (b := 600) (by omega) (by omega)).mp c1423
        refine lv_iconst (v := 0) hx hb dX5_isWord_38 (by decide) ?_
        refine lv_istore_n (lv' := [(2, .int 0), (0, .ref w), (1, .ref (cs (100 + i)))]) hx hb dX5_isWord_39 rfl hl (by decide) rfl (fun ls hl => ?_)
        refine lp_r (B0 := B0) (α := Nat) (nL := 3) (fun a9 => 8 - a9) (fun a9 => (a9 ≤ nT i) ∧ (∀ j, j < a9 → B (z + j) = nB i j)) (fun a9 => [(2, .int (nI a9)), (0, .ref w), (1, .ref (cs (100 + i)))]) ?_ 0 _ _ ⟨(by show (0) ≤ nT i; omega), (fun j hj => absurd hj (Nat.not_lt_zero j))⟩ hL (lv_sub hl [0, 1, 2] rfl)
        rintro k locs ls ih1424 ⟨hk, hall⟩ hL hl
        have hl : lv_has ls 3 [(2, .int (nI k)), (0, .ref w), (1, .ref (cs (100 + i)))] := hl
        have hk : k ≤ nT i := hk
        have hall : ∀ j, j < k → B (z + j) = nB i j := hall
        refine lv_iload_n hx hb dX5_isWord_40 rfl (lv_at hl 0 rfl) ?_
        refine lv_aload_n hx hb dX5_isWord_41 rfl (lv_at hl 2 rfl) ?_
        refine W.old hL (fun hold => ?_)
        refine cv_i (As := []) (rest := [.int (nI k)]) (b := (cs (100 + i))) ⟨hx, hb, hml, hown, hts⟩ (c_J0_length_8abf5 hT (i := i) hi9) (cwV 0 hts gX5_isWord_J0_length_8abf5 rfl rfl rfl hdJ0_length_8abf5_v ⟨Nat.le_of_ble_eq_true rfl, Nat.le_of_ble_eq_true rfl⟩) hN hE hL (sx_rec (hE.2.1 _ hi9) hold) rfl rfl hl.1 (Nat.le_of_ble_eq_true rfl) dX5_isWord_42 (Nat.zero_le _) (Nat.zero_le _) (fun r1425 H1 locs hL hqr1425 => ?_)
        obtain ⟨h9, hqr1425⟩ := hqr1425; replace h9 := h9.symm; subst h9
        obtain rfl := hqr1425
        have hn9 := nT_le _ hi9
        refine lv_icmp_ge (tgt := 88) hx hb dX5_isWord_45 (by decide) (fun c1426 => ?_) (fun c1426 => ?_)
        · have c1426 : (nT i) ≤ k := (nI_leI (a := (nT i)) (b := k) (by omega) (by omega)).mp c1426
          refine lv_iconst (v := 1) hx hb dX5_isWord_88 (by decide) ?_
          exact en_i hx hb hr hlocks hL rfl (Nat.zero_le _) (Nat.zero_le _) dX5_isWord_89 (⟨rfl, Or.inl ⟨rfl, isW_of hY (by omega) (fun j hj => hall j (by omega))⟩⟩)
        · have c1426 : ¬ (nT i) ≤ k := fun h9 => c1426 ((nI_leI (a := (nT i)) (b := k) (by omega) (by omega)).mpr h9)
          refine lv_aload_n hx hb dX5_isWord_48 rfl (lv_at hl 1 rfl) ?_
          refine va_get (D := D) (ci := 5) (v := .int (nI z)) (C := RX5) (T := TX5) (N := 14) hx hb hts iX5_isWord_5 hown hN.1 hP 1 rfl rfl 5 (by decide) (hts _ mX5_isWord_3) (fun _ h9 => h9) rfl dX5_isWord_49 ?_
          refine lv_iload_n hx hb dX5_isWord_52 rfl (lv_at hl 0 rfl) ?_
          refine lv_iadd hx hb dX5_isWord_53 ?_
          refine tp_i (nI (z + k)) (nI_add z k) ?_
          refine lv_aload_n hx hb dX5_isWord_54 rfl (lv_at hl 1 rfl) ?_
          refine va_get (D := D) (ci := 5) (v := .int (nI ((tkE B z)))) (C := RX5) (T := TX5) (N := 14) hx hb hts iX5_isWord_5 hown hN.1 hP 1 rfl rfl 3 (by decide) (hts _ mX5_isWord_2) (fun _ h9 => h9) rfl dX5_isWord_55 ?_
          refine lv_icmp_ge (tgt := 88) hx hb dX5_isWord_58 (by decide) (fun c1427 => ?_) (fun c1427 => ?_)
          · have c1427 : ((tkE B z)) ≤ (z + k) := (nI_leI (a := ((tkE B z))) (b := (z + k)) (by omega) (by omega)).mp c1427
            refine lv_iconst (v := 1) hx hb dX5_isWord_88 (by decide) ?_
            exact en_i hx hb hr hlocks hL rfl (Nat.zero_le _) (Nat.zero_le _) dX5_isWord_89 (⟨rfl, Or.inl ⟨rfl, isW_of hY (by omega) (fun j hj => hall j (by omega))⟩⟩)
          · have c1427 : ¬ ((tkE B z)) ≤ (z + k) := fun h9 => c1427 ((nI_leI (a := ((tkE B z))) (b := (z + k)) (by omega) (by omega)).mpr h9)
            refine lv_aload_n hx hb dX5_isWord_61 rfl (lv_at hl 1 rfl) ?_
            refine va_get (D := D) (ci := 5) (v := .ref tx) (C := RX5) (T := TX5) (N := 14) hx hb hts iX5_isWord_5 hown hN.1 hP 1 rfl rfl 0 (by decide) (hts _ mX5_isWord_4) (fun _ h9 => h9) rfl dX5_isWord_62 ?_
            refine lv_aload_n hx hb dX5_isWord_65 rfl (lv_at hl 1 rfl) ?_
            refine va_get (D := D) (ci := 5) (v := .int (nI z)) (C := RX5) (T := TX5) (N := 14) hx hb hts iX5_isWord_5 hown hN.1 hP 1 rfl rfl 5 (by decide) (hts _ mX5_isWord_3) (fun _ h9 => h9) rfl dX5_isWord_66 ?_
            refine lv_iload_n hx hb dX5_isWord_69 rfl (lv_at hl 0 rfl) ?_
            refine lv_iadd hx hb dX5_isWord_70 ?_
            refine tp_i (nI (z + k)) (nI_add z k) ?_
            refine ld_b (v := (f (z + k))) hx hb hN hP 0 rfl (vp_in_nI (n := (z + k)) (N := 600) (by omega) (by omega)) (by rw [(show ((nI (z + k)) : Int32).toNatClampNeg = (z + k) from nI_clamp (n := (z + k)) (by omega))]) dX5_isWord_71 ?_
            refine lv_aload_n hx hb dX5_isWord_72 rfl (lv_at hl 2 rfl) ?_
            refine lv_iload_n hx hb dX5_isWord_73 rfl (lv_at hl 0 rfl) ?_
            refine W.old hL (fun hold => ?_)
            refine cv_i (As := [.int (nI k)]) (rest := [.int (f (z + k))]) (b := (cs (100 + i))) ⟨hx, hb, hml, hown, hts⟩ (c_J0_charAt_5068e hT (i := i) hi9 (k := k) (by first | omega | decide | assumption)) (cwV 1 hts gX5_isWord_J0_charAt_5068e rfl rfl rfl hdJ0_charAt_5068e_v ⟨Nat.le_of_ble_eq_true rfl, Nat.le_of_ble_eq_true rfl⟩) hN hE hL (sx_rec (hE.2.1 _ hi9) hold) rfl rfl hl.1 (Nat.le_of_ble_eq_true rfl) dX5_isWord_74 (Nat.zero_le _) (Nat.zero_le _) (fun r1428 H1 locs hL hqr1428 => ?_)
            obtain ⟨h9, hqr1428⟩ := hqr1428; replace h9 := h9.symm; subst h9
            obtain rfl := hqr1428
            have hw9 := wc_lt (i := i) (k := k) hi9 (by omega)
            refine lv_icmp_eq (tgt := 82) hx hb dX5_isWord_77 (by decide) (fun c1429 => ?_) (fun c1429 => ?_)
            · have hnew : B (z + k) = nB i k := (hf.eq hY (by omega) (by omega)).mp c1429
              refine lv_iinc (v := (nI (k + 1))) (lv' := [(2, .int (nI (k + 1))), (0, .ref w), (1, .ref (cs (100 + i)))]) hx hb dX5_isWord_82 hl (k := 0) rfl (nI_add _ 1) (by decide) rfl (fun ls hl => ?_)
              refine lv_goto (tgt := 40) hx hb dX5_isWord_85 (by decide) ?_
              exact ih1424 (k + 1) _ _ (by show 8 - ((k + 1)) < 8 - k; omega) ⟨(by show ((k + 1)) ≤ nT i; omega), (fun j hj => by rcases Nat.lt_or_eq_of_le (Nat.lt_succ_iff.mp hj) with h9 | h9; exact hall j h9; subst h9; exact hnew)⟩ hL (lv_sub hl [0, 1, 2] rfl)
            · have hnw : ¬ isW B i z := fun g9 => c1429 ((hf.eq hY (by omega) (by omega)).mpr (g9.1 k (by omega)))
              refine lv_iconst (v := 0) hx hb dX5_isWord_80 (by decide) ?_
              exact en_i hx hb hr hlocks hL rfl (Nat.zero_le _) (Nat.zero_le _) dX5_isWord_81 (⟨rfl, Or.inr ⟨rfl, hnw⟩⟩)
      · have c1423 : ¬ ((tkE B z)) ≤ 600 := fun h9 => c1423 ((nI_leI (a := ((tkE B z))) (b := 600) (by omega) (by omega)).mpr h9)
        exact absurd c1423 (by omega)
theorem hdX5_isWord_v : yX5_isWord.cls = RX5 ∧ yX5_isWord.cls ≠ "java/lang/invoke/MethodHandle" ∧ yX5_isWord.cls ≠ "java/lang/invoke/VarHandle" ∧ (parseMethodDescriptor yX5_isWord.desc).map (fun d => d.parameters.length) = some 1 := by decide +kernel
theorem hdX5_step_v : yX5_step.cls = RX5 ∧ yX5_step.cls ≠ "java/lang/invoke/MethodHandle" ∧ yX5_step.cls ≠ "java/lang/invoke/VarHandle" ∧ (parseMethodDescriptor yX5_step.desc).map (fun d => d.parameters.length) = some 0 := by decide +kernel
theorem mX5_takeWord_1 : (.fieldLink RX5 124 "OneBeat$Reader" "start" "I" : Cond) ∈ wsX5_takeWord := List.mem_of_getElem? (i := 1) (by decide +kernel)
theorem iX5_takeWord_5 : ∀ w ∈ wsX50, w ∈ wsX5_takeWord := fun w h => List.mem_of_mem_drop (List.mem_of_mem_take ((show wsX50 = (wsX5_takeWord.drop 72).take 14 by decide +kernel) ▸ h))
theorem hdX5_fail_v : yX5_fail.cls = RX5 ∧ yX5_fail.cls ≠ "java/lang/invoke/MethodHandle" ∧ yX5_fail.cls ≠ "java/lang/invoke/VarHandle" ∧ (parseMethodDescriptor yX5_fail.desc).map (fun d => d.parameters.length) = some 2 := by decide +kernel
set_option maxHeartbeats 4000000 in
set_option maxRecDepth 100000 in
theorem c_X5_takeWord {l : Launch} {D : va_G} {cs : Nat → ClassId} {B0 T : Nat} {κ : KM} {H0 : Heap} (hT : WT B0 D cs T κ H0) {w : Nat} (hw : T2 κ w 6 10) {i : Nat} (hi9 : i ∈ nW) {tx co tn cc : Nat} {f cf B : Nat → Int32} {ta tk ec es : Int32} {su : Value} (hY : BY B tn) (hf : TXB f B tn) (hcc : cc ≤ 600) {z : Nat} (hz : z ≤ tn) (hrs : RS D cs w H0 tx f co cf (κ w).2.2.1 tn (tkE B z) (tkK B z) z (tkV B z) ta tk cc su ec es) : KC l yX5_takeWord wsX5_takeWord 5 107 0 0 D cs B0 H0 [.ref w, .ref (cs (100 + i))] (Qi (fun r H => WT B0 D cs T κ H ∧ Fr B0 [10] κ H0 H ∧ ((r = 1 ∧ isW B i z ∧ RS D cs w H tx f co cf (κ w).2.2.1 tn (tkE B (skp B (z + nT i))) (tkK B (skp B (z + nT i))) (skp B (z + nT i)) (tkV B (skp B (z + nT i))) ta tk cc su ec es) ∨ (r = 0 ∧ ¬ isW B i z ∧ RS D cs w H tx f co cf (κ w).2.2.1 tn (tkE B z) (tkK B z) z (tkV B z) ta tk cc su (-2) (nI z))))) := by
  refine KC.of cX5_takeWord 2 (some .boolean) (by decide) rfl (Nat.le_of_ble_eq_true rfl) ?_
  intro p e s m below meth c ls hx hb hr hml hown hts hlocks hin hN hE hH0 hl
  have hown : s.vm.findClass RX5 = some m.cls := hown
  have hl : lv_has ls 2 [(0, .ref w), (1, .ref (cs (100 + i)))] := hl
  have hL : OkL B0 [] := OkL.nil
  have hF : Fr B0 [10] κ H0 H0 := Fr.rf
  obtain ⟨hkw, hktx, hkco⟩ := hrs
  have h6n := hY.1
  obtain ⟨htx, hco⟩ : T2 κ tx 16 10 ∧ T2 κ co 17 10 := RS.t2 hT hw hkw
  have hzE := tkE_le hY (s := z) (by omega)
  refine lv_aload_n hx hb dX5_takeWord_0 rfl (lv_at hl 0 rfl) ?_
  refine lv_aload_n hx hb dX5_takeWord_1 rfl (lv_at hl 1 rfl) ?_
  refine cv_i (As := [.ref (cs (100 + i))]) (rest := []) (b := w) ⟨hx, hb, hml, hown, hts⟩ (c_X5_isWord hT (w := w) hw (i := i) hi9 (by first | omega | decide | assumption) (by first | omega | decide | assumption) (by first | omega | decide | assumption) (by first | omega | decide | assumption) ⟨hkw, hktx, hkco⟩) (cwV 1 hts gX5_takeWord_X5_isWord rfl rfl rfl hdX5_isWord_v ⟨Nat.le_of_ble_eq_true rfl, Nat.le_of_ble_eq_true rfl⟩) hN hE hL (rcv6 hN hT hw.1) rfl rfl hl.1 (Nat.le_of_ble_eq_true rfl) dX5_takeWord_2 (Nat.zero_le _) (Nat.zero_le _) (fun r1430 H1 locs hL hqr1430 => ?_)
  obtain ⟨h9, hqr1430⟩ := hqr1430; replace h9 := h9.symm; subst h9
  rcases hqr1430 with ⟨rfl, e1431⟩ | ⟨rfl, e1432⟩
  · refine lv_if_ne (tgt := 19) hx hb dX5_takeWord_5 (by decide) (fun _ => ?_) (fun c9 => absurd c9 (by decide))
    refine lv_aload_n hx hb dX5_takeWord_19 rfl (lv_at hl 0 rfl) ?_
    refine cv_v (As := []) (rest := []) (b := w) ⟨hx, hb, hml, hown, hts⟩ (c_X5_step hT (w := w) hw (by first | omega | decide | assumption) (by first | omega | decide | assumption) (by first | omega | decide | assumption) (by first | omega | decide | assumption) (by first | omega | decide | assumption) ⟨hkw, hktx, hkco⟩) (cwV 0 hts gX5_takeWord_X5_step rfl rfl rfl hdX5_step_v ⟨Nat.le_of_ble_eq_true rfl, Nat.le_of_ble_eq_true rfl⟩) hN hE hL (rcv6 hN hT hw.1) rfl rfl hl.1 (Nat.le_of_ble_eq_true rfl) dX5_takeWord_20 (Nat.zero_le _) (Nat.zero_le _) (fun H1 locs hL hqr1433 => ?_)
    obtain ⟨hT1, hF1, hqr1433⟩ := hqr1433
    have hF := hF.tr (hF1.mono (by simp))
    have hT := hT1
    have m1434 := hqr1433
    obtain ⟨z1435, hz1435⟩ : ∃ z9, z9 = skp B ((tkE B z)) := ⟨_, rfl⟩
    rw [← hz1435] at m1434
    have bz1435 : z1435 ≤ tn := by rw [hz1435]; exact run_ub hY (by decide) (by omega)
    have hzE := tkE_le hY (s := z1435) (by omega)
    obtain ⟨hkw, hktx, hkco⟩ := m1434
    refine lv_iconst (v := 1) hx hb dX5_takeWord_23 (by decide) ?_
    exact en_i hx hb hr hlocks hL rfl (Nat.zero_le _) (Nat.zero_le _) dX5_takeWord_24 (⟨hT, hF, Or.inl ⟨rfl, e1431, by rw [← tkE_w hY hi9 e1431, ← hz1435]; exact ⟨hkw, hktx, hkco⟩⟩⟩)
  · refine lv_if_ne (tgt := 19) hx hb dX5_takeWord_5 (by decide) (fun c9 => absurd (by decide) c9) (fun _ => ?_)
    refine lv_aload_n hx hb dX5_takeWord_8 rfl (lv_at hl 0 rfl) ?_
    refine lv_bipush (v := (-2)) hx hb dX5_takeWord_9 (by decide) ?_
    refine lv_aload_n hx hb dX5_takeWord_11 rfl (lv_at hl 0 rfl) ?_
    obtain ⟨hb1436, e1436, hat1436, hk1436⟩ := hT.o6 hw.1
    obtain ⟨f1436_0, f1436_2, f1436_3, f1436_4, f1436_5, f1436_6, f1436_7, f1436_8, f1436_9, f1436_10, f1436_11, f1436_12, f1436_13, rfl, c1436_1, c1436_2, c1436_3, c1436_5, c1436_10, t1436_0, t1436_9, c1436_11, c1436_p2⟩ := hk1436
    obtain ⟨rfl, rfl, rfl, rfl, rfl, rfl, rfl, rfl, rfl, rfl, rfl, rfl, rfl⟩ := eq6 hat1436 hkw (by omega)
    have hP : va_P D vwCl [(w, .inr (5, [.ref tx, .int (nI ((κ w).2.2.1)), .int (nI tn), .int (nI ((tkE B z))), .int (tkK B z), .int (nI z), .int (tkV B z), .int ta, .int tk, .ref co, .int (nI cc), su, .int ec, .int es]))] _ := va_P.cons hat1436 va_P.nil
    refine va_get (D := D) (ci := 5) (v := .int (nI z)) (C := RX5) (T := TX5) (N := 14) hx hb hts iX5_takeWord_5 hown hN.1 hP 0 rfl rfl 5 (by decide) (hts _ mX5_takeWord_1) (fun _ h9 => h9) rfl dX5_takeWord_12 ?_
    refine cv_i (As := [.int (-2), .int (nI z)]) (rest := []) (b := w) ⟨hx, hb, hml, hown, hts⟩ (c_X5_fail hT (w := w) hw (x := (-2)) (y := (nI z)) (by first | omega | decide | assumption) (by first | omega | decide | assumption) (by first | omega | decide | assumption) (by first | omega | decide | assumption) (by first | omega | decide | assumption) ⟨hkw, hktx, hkco⟩) (cwV 2 hts gX5_takeWord_X5_fail rfl rfl rfl hdX5_fail_v ⟨Nat.le_of_ble_eq_true rfl, Nat.le_of_ble_eq_true rfl⟩) hN hE hL (rcv6 hN hT hw.1) rfl rfl hl.1 (Nat.le_of_ble_eq_true rfl) dX5_takeWord_15 (Nat.zero_le _) (Nat.zero_le _) (fun r1437 H1 locs hL hqr1437 => ?_)
    obtain ⟨hT1, hF1, hqr1437⟩ := hqr1437
    have hF := hF.tr (hF1.mono (by simp))
    have hT := hT1
    obtain ⟨rfl, m1438⟩ := hqr1437
    obtain ⟨hkw, hktx, hkco⟩ := m1438
    exact en_i hx hb hr hlocks hL rfl (Nat.zero_le _) (Nat.zero_le _) dX5_takeWord_18 (⟨hT, hF, Or.inr ⟨rfl, e1432, ⟨hkw, hktx, hkco⟩⟩⟩)
theorem hdX5_isMark_v : yX5_isMark.cls = RX5 ∧ yX5_isMark.cls ≠ "java/lang/invoke/MethodHandle" ∧ yX5_isMark.cls ≠ "java/lang/invoke/VarHandle" ∧ (parseMethodDescriptor yX5_isMark.desc).map (fun d => d.parameters.length) = some 1 := by decide +kernel
theorem mX5_takeMark_1 : (.fieldLink RX5 124 "OneBeat$Reader" "start" "I" : Cond) ∈ wsX5_takeMark := List.mem_of_getElem? (i := 1) (by decide +kernel)
theorem iX5_takeMark_5 : ∀ w ∈ wsX50, w ∈ wsX5_takeMark := fun w h => List.mem_of_mem_drop (List.mem_of_mem_take ((show wsX50 = (wsX5_takeMark.drop 23).take 14 by decide +kernel) ▸ h))
set_option maxHeartbeats 4000000 in
set_option maxRecDepth 100000 in
theorem c_X5_takeMark {l : Launch} {D : va_G} {cs : Nat → ClassId} {B0 T : Nat} {κ : KM} {H0 : Heap} (hT : WT B0 D cs T κ H0) {ch : Nat} {w : Nat} (hw : T2 κ w 6 10) {tx co tn cc : Nat} {f cf B : Nat → Int32} {ta tk ec es : Int32} {su : Value} (hY : BY B tn) (hf : TXB f B tn) (hcc : cc ≤ 600) {z : Nat} (hz : z ≤ tn) (hrs : RS D cs w H0 tx f co cf (κ w).2.2.1 tn (tkE B z) (tkK B z) z (tkV B z) ta tk cc su ec es) (hch : MK ch) : KC l yX5_takeMark wsX5_takeMark 1 22 0 0 D cs B0 H0 [.ref w, .int (nI ch)] (Qi (fun r H => WT B0 D cs T κ H ∧ Fr B0 [10] κ H0 H ∧ ((r = 1 ∧ B z = nI ch ∧ RS D cs w H tx f co cf (κ w).2.2.1 tn (tkE B (skp B (z + 1))) (tkK B (skp B (z + 1))) (skp B (z + 1)) (tkV B (skp B (z + 1))) ta tk cc su ec es) ∨ (r = 0 ∧ ¬ B z = nI ch ∧ RS D cs w H tx f co cf (κ w).2.2.1 tn (tkE B z) (tkK B z) z (tkV B z) ta tk cc su (-2) (nI z))))) := by
  refine KC.of cX5_takeMark 2 (some .boolean) (by decide) rfl (Nat.le_of_ble_eq_true rfl) ?_
  intro p e s m below meth c ls hx hb hr hml hown hts hlocks hin hN hE hH0 hl
  have hown : s.vm.findClass RX5 = some m.cls := hown
  have hl : lv_has ls 2 [(0, .ref w), (1, .int (nI ch))] := hl
  have hL : OkL B0 [] := OkL.nil
  have hF : Fr B0 [10] κ H0 H0 := Fr.rf
  obtain ⟨hkw, hktx, hkco⟩ := hrs
  have h6n := hY.1
  obtain ⟨htx, hco⟩ : T2 κ tx 16 10 ∧ T2 κ co 17 10 := RS.t2 hT hw hkw
  have hzE := tkE_le hY (s := z) (by omega)
  refine lv_aload_n hx hb dX5_takeMark_0 rfl (lv_at hl 0 rfl) ?_
  refine lv_iload_n hx hb dX5_takeMark_1 rfl (lv_at hl 1 rfl) ?_
  refine cv_i (As := [.int (nI ch)]) (rest := []) (b := w) ⟨hx, hb, hml, hown, hts⟩ (c_X5_isMark hT (w := w) hw (ch := ch) (by first | omega | decide | assumption) (by first | omega | decide | assumption) (by first | omega | decide | assumption) (by first | omega | decide | assumption) ⟨hkw, hktx, hkco⟩ (by first | omega | decide | assumption)) (cwV 1 hts gX5_takeMark_X5_isMark rfl rfl rfl hdX5_isMark_v ⟨Nat.le_of_ble_eq_true rfl, Nat.le_of_ble_eq_true rfl⟩) hN hE hL (rcv6 hN hT hw.1) rfl rfl hl.1 (Nat.le_of_ble_eq_true rfl) dX5_takeMark_2 (Nat.zero_le _) (Nat.zero_le _) (fun r1439 H1 locs hL hqr1439 => ?_)
  obtain ⟨h9, hqr1439⟩ := hqr1439; replace h9 := h9.symm; subst h9
  rcases hqr1439 with ⟨rfl, e1440⟩ | ⟨rfl, e1441⟩
  · refine lv_if_ne (tgt := 19) hx hb dX5_takeMark_5 (by decide) (fun _ => ?_) (fun c9 => absurd c9 (by decide))
    refine lv_aload_n hx hb dX5_takeMark_19 rfl (lv_at hl 0 rfl) ?_
    refine cv_v (As := []) (rest := []) (b := w) ⟨hx, hb, hml, hown, hts⟩ (c_X5_step hT (w := w) hw (by first | omega | decide | assumption) (by first | omega | decide | assumption) (by first | omega | decide | assumption) (by first | omega | decide | assumption) (by first | omega | decide | assumption) ⟨hkw, hktx, hkco⟩) (cwV 0 hts gX5_takeMark_X5_step rfl rfl rfl hdX5_step_v ⟨Nat.le_of_ble_eq_true rfl, Nat.le_of_ble_eq_true rfl⟩) hN hE hL (rcv6 hN hT hw.1) rfl rfl hl.1 (Nat.le_of_ble_eq_true rfl) dX5_takeMark_20 (Nat.zero_le _) (Nat.zero_le _) (fun H1 locs hL hqr1442 => ?_)
    obtain ⟨hT1, hF1, hqr1442⟩ := hqr1442
    have hF := hF.tr (hF1.mono (by simp))
    have hT := hT1
    have m1443 := hqr1442
    obtain ⟨z1444, hz1444⟩ : ∃ z9, z9 = skp B ((tkE B z)) := ⟨_, rfl⟩
    rw [← hz1444] at m1443
    have bz1444 : z1444 ≤ tn := by rw [hz1444]; exact run_ub hY (by decide) (by omega)
    have hzE := tkE_le hY (s := z1444) (by omega)
    obtain ⟨hkw, hktx, hkco⟩ := m1443
    refine lv_iconst (v := 1) hx hb dX5_takeMark_23 (by decide) ?_
    exact en_i hx hb hr hlocks hL rfl (Nat.zero_le _) (Nat.zero_le _) dX5_takeMark_24 (⟨hT, hF, Or.inl ⟨rfl, e1440, by rw [← tkE_m hY hch e1440, ← hz1444]; exact ⟨hkw, hktx, hkco⟩⟩⟩)
  · refine lv_if_ne (tgt := 19) hx hb dX5_takeMark_5 (by decide) (fun c9 => absurd (by decide) c9) (fun _ => ?_)
    refine lv_aload_n hx hb dX5_takeMark_8 rfl (lv_at hl 0 rfl) ?_
    refine lv_bipush (v := (-2)) hx hb dX5_takeMark_9 (by decide) ?_
    refine lv_aload_n hx hb dX5_takeMark_11 rfl (lv_at hl 0 rfl) ?_
    obtain ⟨hb1445, e1445, hat1445, hk1445⟩ := hT.o6 hw.1
    obtain ⟨f1445_0, f1445_2, f1445_3, f1445_4, f1445_5, f1445_6, f1445_7, f1445_8, f1445_9, f1445_10, f1445_11, f1445_12, f1445_13, rfl, c1445_1, c1445_2, c1445_3, c1445_5, c1445_10, t1445_0, t1445_9, c1445_11, c1445_p2⟩ := hk1445
    obtain ⟨rfl, rfl, rfl, rfl, rfl, rfl, rfl, rfl, rfl, rfl, rfl, rfl, rfl⟩ := eq6 hat1445 hkw (by omega)
    have hP : va_P D vwCl [(w, .inr (5, [.ref tx, .int (nI ((κ w).2.2.1)), .int (nI tn), .int (nI ((tkE B z))), .int (tkK B z), .int (nI z), .int (tkV B z), .int ta, .int tk, .ref co, .int (nI cc), su, .int ec, .int es]))] _ := va_P.cons hat1445 va_P.nil
    refine va_get (D := D) (ci := 5) (v := .int (nI z)) (C := RX5) (T := TX5) (N := 14) hx hb hts iX5_takeMark_5 hown hN.1 hP 0 rfl rfl 5 (by decide) (hts _ mX5_takeMark_1) (fun _ h9 => h9) rfl dX5_takeMark_12 ?_
    refine cv_i (As := [.int (-2), .int (nI z)]) (rest := []) (b := w) ⟨hx, hb, hml, hown, hts⟩ (c_X5_fail hT (w := w) hw (x := (-2)) (y := (nI z)) (by first | omega | decide | assumption) (by first | omega | decide | assumption) (by first | omega | decide | assumption) (by first | omega | decide | assumption) (by first | omega | decide | assumption) ⟨hkw, hktx, hkco⟩) (cwV 2 hts gX5_takeMark_X5_fail rfl rfl rfl hdX5_fail_v ⟨Nat.le_of_ble_eq_true rfl, Nat.le_of_ble_eq_true rfl⟩) hN hE hL (rcv6 hN hT hw.1) rfl rfl hl.1 (Nat.le_of_ble_eq_true rfl) dX5_takeMark_15 (Nat.zero_le _) (Nat.zero_le _) (fun r1446 H1 locs hL hqr1446 => ?_)
    obtain ⟨hT1, hF1, hqr1446⟩ := hqr1446
    have hF := hF.tr (hF1.mono (by simp))
    have hT := hT1
    obtain ⟨rfl, m1447⟩ := hqr1446
    obtain ⟨hkw, hktx, hkco⟩ := m1447
    exact en_i hx hb hr hlocks hL rfl (Nat.zero_le _) (Nat.zero_le _) dX5_takeMark_18 (⟨hT, hF, Or.inr ⟨rfl, e1441, ⟨hkw, hktx, hkco⟩⟩⟩)
theorem mX5_takeNumber_1 : (.fieldLink RX5 73 "OneBeat$Reader" "kind" "I" : Cond) ∈ wsX5_takeNumber := List.mem_of_getElem? (i := 1) (by decide +kernel)
theorem iX5_takeNumber_5 : ∀ w ∈ wsX50, w ∈ wsX5_takeNumber := fun w h => List.mem_of_mem_drop (List.mem_of_mem_take ((show wsX50 = (wsX5_takeNumber.drop 21).take 14 by decide +kernel) ▸ h))
theorem mX5_takeNumber_3 : (.fieldLink RX5 175 "OneBeat$Reader" "value" "I" : Cond) ∈ wsX5_takeNumber := List.mem_of_getElem? (i := 3) (by decide +kernel)
theorem mX5_takeNumber_2 : (.fieldLink RX5 124 "OneBeat$Reader" "start" "I" : Cond) ∈ wsX5_takeNumber := List.mem_of_getElem? (i := 2) (by decide +kernel)
theorem mX5_takeNumber_4 : (.fieldLink RX5 59 "OneBeat$Reader" "taken" "I" : Cond) ∈ wsX5_takeNumber := List.mem_of_getElem? (i := 4) (by decide +kernel)
theorem mX5_takeNumber_5 : (.fieldLink RX5 135 "OneBeat$Reader" "takenAt" "I" : Cond) ∈ wsX5_takeNumber := List.mem_of_getElem? (i := 5) (by decide +kernel)
set_option maxHeartbeats 4000000 in
set_option maxRecDepth 100000 in
theorem c_X5_takeNumber {l : Launch} {D : va_G} {cs : Nat → ClassId} {B0 T : Nat} {κ : KM} {H0 : Heap} (hT : WT B0 D cs T κ H0) {bb : Nat} {aa : Nat} {w : Nat} (hw : T2 κ w 6 10) {tx co tn cc : Nat} {f cf B : Nat → Int32} {ta tk ec es : Int32} {su : Value} (hY : BY B tn) (hf : TXB f B tn) (hcc : cc ≤ 600) {z : Nat} (hz : z ≤ tn) (hrs : RS D cs w H0 tx f co cf (κ w).2.2.1 tn (tkE B z) (tkK B z) z (tkV B z) ta tk cc su ec es) (hbb : bb ≤ 9999) (haa : aa ≤ 9999) : KC l yX5_takeNumber wsX5_takeNumber 1 22 0 0 D cs B0 H0 [.ref w, .int (nI aa), .int (nI bb)] (Qi (fun r H => WT B0 D cs T κ H ∧ Fr B0 [10] κ H0 H ∧ ((r = 1 ∧ isd (B z) ∧ aa ≤ nvl B z 0 ∧ nvl B z 0 ≤ bb ∧ RS D cs w H tx f co cf (κ w).2.2.1 tn (tkE B (skp B (dgE B z))) (tkK B (skp B (dgE B z))) (skp B (dgE B z)) (tkV B (skp B (dgE B z))) (nI (nvl B z 0)) (nI z) cc su ec es) ∨ (r = 0 ∧ ¬ isd (B z) ∧ RS D cs w H tx f co cf (κ w).2.2.1 tn (tkE B z) (tkK B z) z (tkV B z) ta tk cc su (-2) (nI z)) ∨ (r = 0 ∧ isd (B z) ∧ ¬ (aa ≤ nvl B z 0 ∧ nvl B z 0 ≤ bb) ∧ RS D cs w H tx f co cf (κ w).2.2.1 tn (tkE B z) (tkK B z) z (tkV B z) ta tk cc su (-3) (nI z))))) := by
  refine KC.of cX5_takeNumber 3 (some .boolean) (by decide) rfl (Nat.le_of_ble_eq_true rfl) ?_
  intro p e s m below meth c ls hx hb hr hml hown hts hlocks hin hN hE hH0 hl
  have hown : s.vm.findClass RX5 = some m.cls := hown
  have hl : lv_has ls 3 [(0, .ref w), (1, .int (nI aa)), (2, .int (nI bb))] := hl
  have hL : OkL B0 [] := OkL.nil
  have hF : Fr B0 [10] κ H0 H0 := Fr.rf
  obtain ⟨hkw, hktx, hkco⟩ := hrs
  have h6n := hY.1
  obtain ⟨htx, hco⟩ : T2 κ tx 16 10 ∧ T2 κ co 17 10 := RS.t2 hT hw hkw
  have hzE := tkE_le hY (s := z) (by omega)
  refine lv_aload_n hx hb dX5_takeNumber_0 rfl (lv_at hl 0 rfl) ?_
  obtain ⟨hb1448, e1448, hat1448, hk1448⟩ := hT.o6 hw.1
  obtain ⟨f1448_0, f1448_2, f1448_3, f1448_4, f1448_5, f1448_6, f1448_7, f1448_8, f1448_9, f1448_10, f1448_11, f1448_12, f1448_13, rfl, c1448_1, c1448_2, c1448_3, c1448_5, c1448_10, t1448_0, t1448_9, c1448_11, c1448_p2⟩ := hk1448
  obtain ⟨rfl, rfl, rfl, rfl, rfl, rfl, rfl, rfl, rfl, rfl, rfl, rfl, rfl⟩ := eq6 hat1448 hkw (by omega)
  have hP : va_P D vwCl [(w, .inr (5, [.ref tx, .int (nI ((κ w).2.2.1)), .int (nI tn), .int (nI ((tkE B z))), .int (tkK B z), .int (nI z), .int (tkV B z), .int ta, .int tk, .ref co, .int (nI cc), su, .int ec, .int es]))] _ := va_P.cons hat1448 va_P.nil
  refine va_get (D := D) (ci := 5) (v := .int (tkK B z)) (C := RX5) (T := TX5) (N := 14) hx hb hts iX5_takeNumber_5 hown hN.1 hP 0 rfl rfl 4 (by decide) (hts _ mX5_takeNumber_1) (fun _ h9 => h9) rfl dX5_takeNumber_1 ?_
  refine lv_iconst (v := 1) hx hb dX5_takeNumber_4 (by decide) ?_
  refine lv_icmp_eq (tgt := 19) hx hb dX5_takeNumber_5 (by decide) (fun c1449 => ?_) (fun c1449 => ?_)
  · have hd := tkK_1.mp c1449
    obtain ⟨-, hv9, he9⟩ := tk_d hd
    rw [hv9] at hP hkw
    refine lv_aload_n hx hb dX5_takeNumber_19 rfl (lv_at hl 0 rfl) ?_
    refine va_get (D := D) (ci := 5) (v := .int (nI ((min (nvl B z 0) 1000000)))) (C := RX5) (T := TX5) (N := 14) hx hb hts iX5_takeNumber_5 hown hN.1 hP 0 rfl rfl 6 (by decide) (hts _ mX5_takeNumber_3) (fun _ h9 => h9) rfl dX5_takeNumber_20 ?_
    refine lv_iload_n hx hb dX5_takeNumber_23 rfl (lv_at hl 1 rfl) ?_
    refine lv_icmp_lt (tgt := 35) hx hb dX5_takeNumber_24 (by decide) (fun c1450 => ?_) (fun c1450 => ?_)
    · have c1450 : ((min (nvl B z 0) 1000000)) < aa := (nI_ltI (a := ((min (nvl B z 0) 1000000))) (b := aa) (by omega) (by omega)).mp c1450
      refine lv_aload_n hx hb dX5_takeNumber_35 rfl (lv_at hl 0 rfl) ?_
      refine lv_bipush (v := (-3)) hx hb dX5_takeNumber_36 (by decide) ?_
      refine lv_aload_n hx hb dX5_takeNumber_38 rfl (lv_at hl 0 rfl) ?_
      refine va_get (D := D) (ci := 5) (v := .int (nI z)) (C := RX5) (T := TX5) (N := 14) hx hb hts iX5_takeNumber_5 hown hN.1 hP 0 rfl rfl 5 (by decide) (hts _ mX5_takeNumber_2) (fun _ h9 => h9) rfl dX5_takeNumber_39 ?_
      refine cv_i (As := [.int (-3), .int (nI z)]) (rest := []) (b := w) ⟨hx, hb, hml, hown, hts⟩ (c_X5_fail hT (w := w) hw (x := (-3)) (y := (nI z)) (by first | omega | decide | assumption) (by first | omega | decide | assumption) (by first | omega | decide | assumption) (by first | omega | decide | assumption) (by first | omega | decide | assumption) ⟨hkw, hktx, hkco⟩) (cwV 2 hts gX5_takeNumber_X5_fail rfl rfl rfl hdX5_fail_v ⟨Nat.le_of_ble_eq_true rfl, Nat.le_of_ble_eq_true rfl⟩) hN hE hL (rcv6 hN hT hw.1) rfl rfl hl.1 (Nat.le_of_ble_eq_true rfl) dX5_takeNumber_42 (Nat.zero_le _) (Nat.zero_le _) (fun r1451 H1 locs hL hqr1451 => ?_)
      obtain ⟨hT1, hF1, hqr1451⟩ := hqr1451
      have hF := hF.tr (hF1.mono (by simp))
      have hT := hT1
      obtain ⟨rfl, m1452⟩ := hqr1451
      obtain ⟨hkw, hktx, hkco⟩ := m1452
      exact en_i hx hb hr hlocks hL rfl (Nat.zero_le _) (Nat.zero_le _) dX5_takeNumber_45 (⟨hT, hF, Or.inr (Or.inr ⟨rfl, hd, (by omega), by rw [hv9]; exact ⟨hkw, hktx, hkco⟩⟩)⟩)
    · have c1450 : ¬ ((min (nvl B z 0) 1000000)) < aa := fun h9 => c1450 ((nI_ltI (a := ((min (nvl B z 0) 1000000))) (b := aa) (by omega) (by omega)).mpr h9)
      refine lv_aload_n hx hb dX5_takeNumber_27 rfl (lv_at hl 0 rfl) ?_
      refine va_get (D := D) (ci := 5) (v := .int (nI ((min (nvl B z 0) 1000000)))) (C := RX5) (T := TX5) (N := 14) hx hb hts iX5_takeNumber_5 hown hN.1 hP 0 rfl rfl 6 (by decide) (hts _ mX5_takeNumber_3) (fun _ h9 => h9) rfl dX5_takeNumber_28 ?_
      refine lv_iload_n hx hb dX5_takeNumber_31 rfl (lv_at hl 2 rfl) ?_
      refine lv_icmp_le (tgt := 46) hx hb dX5_takeNumber_32 (by decide) (fun c1453 => ?_) (fun c1453 => ?_)
      · have c1453 : ((min (nvl B z 0) 1000000)) ≤ bb := (nI_leI (a := ((min (nvl B z 0) 1000000))) (b := bb) (by omega) (by omega)).mp c1453
        refine lv_aload_n hx hb dX5_takeNumber_46 rfl (lv_at hl 0 rfl) ?_
        refine lv_aload_n hx hb dX5_takeNumber_47 rfl (lv_at hl 0 rfl) ?_
        refine va_get (D := D) (ci := 5) (v := .int (nI ((min (nvl B z 0) 1000000)))) (C := RX5) (T := TX5) (N := 14) hx hb hts iX5_takeNumber_5 hown hN.1 hP 0 rfl rfl 6 (by decide) (hts _ mX5_takeNumber_3) (fun _ h9 => h9) rfl dX5_takeNumber_48 ?_
        have hB : Bx B0 D _ [(w, .inr (5, [.ref tx, .int (nI ((κ w).2.2.1)), .int (nI tn), .int (nI ((tkE B z))), .int (tkK B z), .int (nI z), .int (nI ((min (nvl B z 0) 1000000))), .int ta, .int tk, .ref co, .int (nI cc), su, .int ec, .int es]))] [] _ _ := Bx.of (fun a => (κ a).1) hL hP (fa_c hb1448 fa_n) (by simp only [List.map_cons, List.map_nil, hw.1]; decide)
        refine b_put (D := D) (ci := 5) (v := .int (nI ((min (nvl B z 0) 1000000)))) (ty := .int) (C := RX5) (T := TX5) (N := 14) hx hb hts iX5_takeNumber_5 tyX5 tyX5_ok nmX5 hown hN hB 0 rfl rfl 7 (by decide) (hts _ mX5_takeNumber_4) (fun _ h9 => h9) rfl (by decide +kernel) rfl rfl (Nat.le_of_ble_eq_true rfl) (.inl rfl) dX5_takeNumber_51 (fun H locs hB => ?_)
        have hB : Bx B0 D _ [(w, .inr (5, [.ref tx, .int (nI ((κ w).2.2.1)), .int (nI tn), .int (nI ((tkE B z))), .int (tkK B z), .int (nI z), .int (nI ((min (nvl B z 0) 1000000))), .int (nI ((min (nvl B z 0) 1000000))), .int tk, .ref co, .int (nI cc), su, .int ec, .int es]))] [w] _ _ := hB
        refine lv_aload_n hx hb dX5_takeNumber_54 rfl (lv_at hl 0 rfl) ?_
        refine lv_aload_n hx hb dX5_takeNumber_55 rfl (lv_at hl 0 rfl) ?_
        refine va_get (D := D) (ci := 5) (v := .int (nI z)) (C := RX5) (T := TX5) (N := 14) hx hb hts iX5_takeNumber_5 hown hN.1 hB.1 0 rfl rfl 5 (by decide) (hts _ mX5_takeNumber_2) (fun _ h9 => h9) rfl dX5_takeNumber_56 ?_
        refine b_put (D := D) (ci := 5) (v := .int (nI z)) (ty := .int) (C := RX5) (T := TX5) (N := 14) hx hb hts iX5_takeNumber_5 tyX5 tyX5_ok nmX5 hown hN hB 0 rfl rfl 8 (by decide) (hts _ mX5_takeNumber_5) (fun _ h9 => h9) rfl (by decide +kernel) rfl rfl (Nat.le_of_ble_eq_true rfl) (.inr ⟨rfl, List.mem_of_getElem? (i := 0) rfl⟩) dX5_takeNumber_59 (fun H locs hB => ?_)
        have hB : Bx B0 D _ [(w, .inr (5, [.ref tx, .int (nI ((κ w).2.2.1)), .int (nI tn), .int (nI ((tkE B z))), .int (tkK B z), .int (nI z), .int (nI ((min (nvl B z 0) 1000000))), .int (nI ((min (nvl B z 0) 1000000))), .int (nI z), .ref co, .int (nI cc), su, .int ec, .int es]))] [w] _ _ := hB
        refine lv_aload_n hx hb dX5_takeNumber_62 rfl (lv_at hl 0 rfl) ?_
        have hT : WT B0 D cs T κ _ := hT.close hB ⟨⟨0, _, rfl, ok_6 hw.1 ⟨_, _, _, _, _, _, _, _, _, _, _, _, _, rfl, (by omega), (by omega), (by omega), (by omega), (by omega), t1448_0, t1448_9, c1448_11, c1448_p2⟩⟩, trivial⟩
        have hF : Fr B0 [10] κ H0 _ := hF.close hB (fa_c (by simp [hw.2]) fa_n)
        have hL : OkL B0 _ := hB.2.2.2.2.2
        have hP : va_P D vwCl [(w, .inr (5, [.ref tx, .int (nI ((κ w).2.2.1)), .int (nI tn), .int (nI ((tkE B z))), .int (tkK B z), .int (nI z), .int (nI ((min (nvl B z 0) 1000000))), .int (nI ((min (nvl B z 0) 1000000))), .int (nI z), .ref co, .int (nI cc), su, .int ec, .int es]))] _ := hB.1
        have hkw : va_at D vwCl (w, .inr (5, [.ref tx, .int (nI ((κ w).2.2.1)), .int (nI tn), .int (nI ((tkE B z))), .int (tkK B z), .int (nI z), .int (nI ((min (nvl B z 0) 1000000))), .int (nI ((min (nvl B z 0) 1000000))), .int (nI z), .ref co, .int (nI cc), su, .int ec, .int es])) _ := hP 0 _ rfl
        have hktx := hktx.kept (hB.2.2.2.1 _ hktx.lt (by simp only [List.mem_cons, List.not_mem_nil, or_false, not_or]; exact ne_c htx.1 hw.1 (by decide)))
        have hkco := hkco.kept (hB.2.2.2.1 _ hkco.lt (by simp only [List.mem_cons, List.not_mem_nil, or_false, not_or]; exact ne_c hco.1 hw.1 (by decide)))
        refine cv_v (As := []) (rest := []) (b := w) ⟨hx, hb, hml, hown, hts⟩ (c_X5_step hT (w := w) hw (by first | omega | decide | assumption) (by first | omega | decide | assumption) (by first | omega | decide | assumption) (by first | omega | decide | assumption) (by first | omega | decide | assumption) ⟨hkw, hktx, hkco⟩) (cwV 0 hts gX5_takeNumber_X5_step rfl rfl rfl hdX5_step_v ⟨Nat.le_of_ble_eq_true rfl, Nat.le_of_ble_eq_true rfl⟩) hN hE hL (rcv6 hN hT hw.1) rfl rfl hl.1 (Nat.le_of_ble_eq_true rfl) dX5_takeNumber_63 (Nat.zero_le _) (Nat.zero_le _) (fun H1 locs hL hqr1454 => ?_)
        obtain ⟨hT1, hF1, hqr1454⟩ := hqr1454
        have hF := hF.tr (hF1.mono (by simp))
        have hT := hT1
        have m1455 := hqr1454
        obtain ⟨z1456, hz1456⟩ : ∃ z9, z9 = skp B ((tkE B z)) := ⟨_, rfl⟩
        rw [← hz1456] at m1455
        have bz1456 : z1456 ≤ tn := by rw [hz1456]; exact run_ub hY (by decide) (by omega)
        have hzE := tkE_le hY (s := z1456) (by omega)
        obtain ⟨hkw, hktx, hkco⟩ := m1455
        refine lv_iconst (v := 1) hx hb dX5_takeNumber_66 (by decide) ?_
        exact en_i hx hb hr hlocks hL rfl (Nat.zero_le _) (Nat.zero_le _) dX5_takeNumber_67 (⟨hT, hF, Or.inl ⟨rfl, hd, (by omega), (by omega), by rw [← he9, ← hz1456, ← show min (nvl B z 0) 1000000 = nvl B z 0 by omega]; exact ⟨hkw, hktx, hkco⟩⟩⟩)
      · have c1453 : ¬ ((min (nvl B z 0) 1000000)) ≤ bb := fun h9 => c1453 ((nI_leI (a := ((min (nvl B z 0) 1000000))) (b := bb) (by omega) (by omega)).mpr h9)
        refine lv_aload_n hx hb dX5_takeNumber_35 rfl (lv_at hl 0 rfl) ?_
        refine lv_bipush (v := (-3)) hx hb dX5_takeNumber_36 (by decide) ?_
        refine lv_aload_n hx hb dX5_takeNumber_38 rfl (lv_at hl 0 rfl) ?_
        refine va_get (D := D) (ci := 5) (v := .int (nI z)) (C := RX5) (T := TX5) (N := 14) hx hb hts iX5_takeNumber_5 hown hN.1 hP 0 rfl rfl 5 (by decide) (hts _ mX5_takeNumber_2) (fun _ h9 => h9) rfl dX5_takeNumber_39 ?_
        refine cv_i (As := [.int (-3), .int (nI z)]) (rest := []) (b := w) ⟨hx, hb, hml, hown, hts⟩ (c_X5_fail hT (w := w) hw (x := (-3)) (y := (nI z)) (by first | omega | decide | assumption) (by first | omega | decide | assumption) (by first | omega | decide | assumption) (by first | omega | decide | assumption) (by first | omega | decide | assumption) ⟨hkw, hktx, hkco⟩) (cwV 2 hts gX5_takeNumber_X5_fail rfl rfl rfl hdX5_fail_v ⟨Nat.le_of_ble_eq_true rfl, Nat.le_of_ble_eq_true rfl⟩) hN hE hL (rcv6 hN hT hw.1) rfl rfl hl.1 (Nat.le_of_ble_eq_true rfl) dX5_takeNumber_42 (Nat.zero_le _) (Nat.zero_le _) (fun r1457 H1 locs hL hqr1457 => ?_)
        obtain ⟨hT1, hF1, hqr1457⟩ := hqr1457
        have hF := hF.tr (hF1.mono (by simp))
        have hT := hT1
        obtain ⟨rfl, m1458⟩ := hqr1457
        obtain ⟨hkw, hktx, hkco⟩ := m1458
        exact en_i hx hb hr hlocks hL rfl (Nat.zero_le _) (Nat.zero_le _) dX5_takeNumber_45 (⟨hT, hF, Or.inr (Or.inr ⟨rfl, hd, (by omega), by rw [hv9]; exact ⟨hkw, hktx, hkco⟩⟩)⟩)
  · have hnd : ¬ isd (B z) := fun g9 => c1449 (tkK_1.mpr g9)
    refine lv_aload_n hx hb dX5_takeNumber_8 rfl (lv_at hl 0 rfl) ?_
    refine lv_bipush (v := (-2)) hx hb dX5_takeNumber_9 (by decide) ?_
    refine lv_aload_n hx hb dX5_takeNumber_11 rfl (lv_at hl 0 rfl) ?_
    refine va_get (D := D) (ci := 5) (v := .int (nI z)) (C := RX5) (T := TX5) (N := 14) hx hb hts iX5_takeNumber_5 hown hN.1 hP 0 rfl rfl 5 (by decide) (hts _ mX5_takeNumber_2) (fun _ h9 => h9) rfl dX5_takeNumber_12 ?_
    refine cv_i (As := [.int (-2), .int (nI z)]) (rest := []) (b := w) ⟨hx, hb, hml, hown, hts⟩ (c_X5_fail hT (w := w) hw (x := (-2)) (y := (nI z)) (by first | omega | decide | assumption) (by first | omega | decide | assumption) (by first | omega | decide | assumption) (by first | omega | decide | assumption) (by first | omega | decide | assumption) ⟨hkw, hktx, hkco⟩) (cwV 2 hts gX5_takeNumber_X5_fail rfl rfl rfl hdX5_fail_v ⟨Nat.le_of_ble_eq_true rfl, Nat.le_of_ble_eq_true rfl⟩) hN hE hL (rcv6 hN hT hw.1) rfl rfl hl.1 (Nat.le_of_ble_eq_true rfl) dX5_takeNumber_15 (Nat.zero_le _) (Nat.zero_le _) (fun r1459 H1 locs hL hqr1459 => ?_)
    obtain ⟨hT1, hF1, hqr1459⟩ := hqr1459
    have hF := hF.tr (hF1.mono (by simp))
    have hT := hT1
    obtain ⟨rfl, m1460⟩ := hqr1459
    obtain ⟨hkw, hktx, hkco⟩ := m1460
    exact en_i hx hb hr hlocks hL rfl (Nat.zero_le _) (Nat.zero_le _) dX5_takeNumber_18 (⟨hT, hF, Or.inr (Or.inl ⟨rfl, hnd, ⟨hkw, hktx, hkco⟩⟩)⟩)
theorem mX5_takeSigned_1 : (.fieldLink RX5 124 "OneBeat$Reader" "start" "I" : Cond) ∈ wsX5_takeSigned := List.mem_of_getElem? (i := 1) (by decide +kernel)
theorem iX5_takeSigned_5 : ∀ w ∈ wsX50, w ∈ wsX5_takeSigned := fun w h => List.mem_of_mem_drop (List.mem_of_mem_take ((show wsX50 = (wsX5_takeSigned.drop 24).take 14 by decide +kernel) ▸ h))
theorem mX5_takeSigned_2 : (.fieldLink RX5 73 "OneBeat$Reader" "kind" "I" : Cond) ∈ wsX5_takeSigned := List.mem_of_getElem? (i := 2) (by decide +kernel)
theorem mX5_takeSigned_3 : (.fieldLink RX5 175 "OneBeat$Reader" "value" "I" : Cond) ∈ wsX5_takeSigned := List.mem_of_getElem? (i := 3) (by decide +kernel)
theorem mX5_takeSigned_4 : (.fieldLink RX5 59 "OneBeat$Reader" "taken" "I" : Cond) ∈ wsX5_takeSigned := List.mem_of_getElem? (i := 4) (by decide +kernel)
set_option maxHeartbeats 4000000 in
set_option maxRecDepth 100000 in
theorem c_X5_takeSigned {l : Launch} {D : va_G} {cs : Nat → ClassId} {B0 T : Nat} {κ : KM} {H0 : Heap} (hT : WT B0 D cs T κ H0) {mm : Nat} {w : Nat} (hw : T2 κ w 6 10) {tx co tn cc : Nat} {f cf B : Nat → Int32} {ta tk ec es : Int32} {su : Value} (hY : BY B tn) (hf : TXB f B tn) (hcc : cc ≤ 600) {z : Nat} (hz : z ≤ tn) (hrs : RS D cs w H0 tx f co cf (κ w).2.2.1 tn (tkE B z) (tkK B z) z (tkV B z) ta tk cc su ec es) (hmm : mm ≤ 9999) : KC l yX5_takeSigned wsX5_takeSigned 1 22 0 0 D cs B0 H0 [.ref w, .int (nI mm)] (Qi (fun r H => WT B0 D cs T κ H ∧ Fr B0 [10] κ H0 H ∧ ((r = 1 ∧ isd (B (sgz B z)) ∧ nvl B (sgz B z) 0 ≤ mm ∧ RS D cs w H tx f co cf (κ w).2.2.1 tn (tkE B (skp B (dgE B (sgz B z)))) (tkK B (skp B (dgE B (sgz B z)))) (skp B (dgE B (sgz B z))) (tkV B (skp B (dgE B (sgz B z)))) (sgv B z) tk cc su ec es) ∨ (r = 0 ∧ ¬ isd (B (sgz B z)) ∧ RS D cs w H tx f co cf (κ w).2.2.1 tn (tkE B (sgz B z)) (tkK B (sgz B z)) (sgz B z) (tkV B (sgz B z)) ta tk cc su (-2) (nI (sgz B z))) ∨ (r = 0 ∧ isd (B (sgz B z)) ∧ ¬ nvl B (sgz B z) 0 ≤ mm ∧ RS D cs w H tx f co cf (κ w).2.2.1 tn (tkE B (sgz B z)) (tkK B (sgz B z)) (sgz B z) (tkV B (sgz B z)) ta tk cc su (-3) (nI z))))) := by
  refine KC.of cX5_takeSigned 4 (some .boolean) (by decide) rfl (Nat.le_of_ble_eq_true rfl) ?_
  intro p e s m below meth c ls hx hb hr hml hown hts hlocks hin hN hE hH0 hl
  have hown : s.vm.findClass RX5 = some m.cls := hown
  have hl : lv_has ls 4 [(0, .ref w), (1, .int (nI mm))] := hl
  have hL : OkL B0 [] := OkL.nil
  have hF : Fr B0 [10] κ H0 H0 := Fr.rf
  obtain ⟨hkw, hktx, hkco⟩ := hrs
  have h6n := hY.1
  obtain ⟨htx, hco⟩ : T2 κ tx 16 10 ∧ T2 κ co 17 10 := RS.t2 hT hw hkw
  have hzE := tkE_le hY (s := z) (by omega)
  refine lv_aload_n hx hb dX5_takeSigned_0 rfl (lv_at hl 0 rfl) ?_
  refine lv_bipush (v := 45) hx hb dX5_takeSigned_1 (by decide) ?_
  refine cv_i (As := [.int 45]) (rest := []) (b := w) ⟨hx, hb, hml, hown, hts⟩ (c_X5_isMark hT (w := w) hw (ch := 45) (by first | omega | decide | assumption) (by first | omega | decide | assumption) (by first | omega | decide | assumption) (by first | omega | decide | assumption) ⟨hkw, hktx, hkco⟩ (by first | omega | decide | assumption)) (cwV 1 hts gX5_takeSigned_X5_isMark rfl rfl rfl hdX5_isMark_v ⟨Nat.le_of_ble_eq_true rfl, Nat.le_of_ble_eq_true rfl⟩) hN hE hL (rcv6 hN hT hw.1) rfl rfl hl.1 (Nat.le_of_ble_eq_true rfl) dX5_takeSigned_3 (Nat.zero_le _) (Nat.zero_le _) (fun r1461 H1 locs hL hqr1461 => ?_)
  obtain ⟨h9, hqr1461⟩ := hqr1461; replace h9 := h9.symm; subst h9
  rcases hqr1461 with ⟨rfl, e1462⟩ | ⟨rfl, e1463⟩
  · refine lv_istore_n (lv' := [(2, .int 1), (0, .ref w), (1, .int (nI mm))]) hx hb dX5_takeSigned_6 rfl hl (by decide) rfl (fun ls hl => ?_)
    refine lv_aload_n hx hb dX5_takeSigned_7 rfl (lv_at hl 1 rfl) ?_
    obtain ⟨hb1464, e1464, hat1464, hk1464⟩ := hT.o6 hw.1
    obtain ⟨f1464_0, f1464_2, f1464_3, f1464_4, f1464_5, f1464_6, f1464_7, f1464_8, f1464_9, f1464_10, f1464_11, f1464_12, f1464_13, rfl, c1464_1, c1464_2, c1464_3, c1464_5, c1464_10, t1464_0, t1464_9, c1464_11, c1464_p2⟩ := hk1464
    obtain ⟨rfl, rfl, rfl, rfl, rfl, rfl, rfl, rfl, rfl, rfl, rfl, rfl, rfl⟩ := eq6 hat1464 hkw (by omega)
    have hP : va_P D vwCl [(w, .inr (5, [.ref tx, .int (nI ((κ w).2.2.1)), .int (nI tn), .int (nI ((tkE B z))), .int (tkK B z), .int (nI z), .int (tkV B z), .int ta, .int tk, .ref co, .int (nI cc), su, .int ec, .int es]))] _ := va_P.cons hat1464 va_P.nil
    refine va_get (D := D) (ci := 5) (v := .int (nI z)) (C := RX5) (T := TX5) (N := 14) hx hb hts iX5_takeSigned_5 hown hN.1 hP 0 rfl rfl 5 (by decide) (hts _ mX5_takeSigned_1) (fun _ h9 => h9) rfl dX5_takeSigned_8 ?_
    refine lv_istore_n (lv' := [(3, .int (nI z)), (2, .int 1), (0, .ref w), (1, .int (nI mm))]) hx hb dX5_takeSigned_11 rfl hl (by decide) rfl (fun ls hl => ?_)
    refine lv_iload_n hx hb dX5_takeSigned_12 rfl (lv_at hl 1 rfl) ?_
    refine lv_if_eq (tgt := 20) hx hb dX5_takeSigned_13 (by decide) (fun c9 => absurd c9 (by decide)) (fun _ => ?_)
    refine lv_aload_n hx hb dX5_takeSigned_16 rfl (lv_at hl 2 rfl) ?_
    refine cv_v (As := []) (rest := []) (b := w) ⟨hx, hb, hml, hown, hts⟩ (c_X5_step hT (w := w) hw (by first | omega | decide | assumption) (by first | omega | decide | assumption) (by first | omega | decide | assumption) (by first | omega | decide | assumption) (by first | omega | decide | assumption) ⟨hkw, hktx, hkco⟩) (cwV 0 hts gX5_takeSigned_X5_step rfl rfl rfl hdX5_step_v ⟨Nat.le_of_ble_eq_true rfl, Nat.le_of_ble_eq_true rfl⟩) hN hE hL (rcv6 hN hT hw.1) rfl rfl hl.1 (Nat.le_of_ble_eq_true rfl) dX5_takeSigned_17 (Nat.zero_le _) (Nat.zero_le _) (fun H1 locs hL hqr1465 => ?_)
    obtain ⟨hT1, hF1, hqr1465⟩ := hqr1465
    have hF := hF.tr (hF1.mono (by simp))
    have hT := hT1
    have m1466 := hqr1465
    obtain ⟨z1467, hz1467⟩ : ∃ z9, z9 = skp B ((tkE B z)) := ⟨_, rfl⟩
    rw [← hz1467] at m1466
    have bz1467 : z1467 ≤ tn := by rw [hz1467]; exact run_ub hY (by decide) (by omega)
    have hzE := tkE_le hY (s := z1467) (by omega)
    obtain ⟨hkw, hktx, hkco⟩ := m1466
    refine lv_aload_n hx hb dX5_takeSigned_20 rfl (lv_at hl 2 rfl) ?_
    obtain ⟨hb1468, e1468, hat1468, hk1468⟩ := hT.o6 hw.1
    obtain ⟨f1468_0, f1468_2, f1468_3, f1468_4, f1468_5, f1468_6, f1468_7, f1468_8, f1468_9, f1468_10, f1468_11, f1468_12, f1468_13, rfl, c1468_1, c1468_2, c1468_3, c1468_5, c1468_10, t1468_0, t1468_9, c1468_11, c1468_p2⟩ := hk1468
    obtain ⟨rfl, rfl, rfl, rfl, rfl, rfl, rfl, rfl, rfl, rfl, rfl, rfl, rfl⟩ := eq6 hat1468 hkw (by omega)
    have hP : va_P D vwCl [(w, .inr (5, [.ref tx, .int (nI ((κ w).2.2.1)), .int (nI tn), .int (nI ((tkE B z1467))), .int (tkK B z1467), .int (nI z1467), .int (tkV B z1467), .int ta, .int tk, .ref co, .int (nI cc), su, .int ec, .int es]))] _ := va_P.cons hat1468 va_P.nil
    refine va_get (D := D) (ci := 5) (v := .int (tkK B z1467)) (C := RX5) (T := TX5) (N := 14) hx hb hts iX5_takeSigned_5 hown hN.1 hP 0 rfl rfl 4 (by decide) (hts _ mX5_takeSigned_2) (fun _ h9 => h9) rfl dX5_takeSigned_21 ?_
    refine lv_iconst (v := 1) hx hb dX5_takeSigned_24 (by decide) ?_
    refine lv_icmp_eq (tgt := 39) hx hb dX5_takeSigned_25 (by decide) (fun c1469 => ?_) (fun c1469 => ?_)
    · have hd := tkK_1.mp c1469
      obtain ⟨-, hv9, he9⟩ := tk_d hd
      rw [hv9] at hP hkw
      refine lv_aload_n hx hb dX5_takeSigned_39 rfl (lv_at hl 2 rfl) ?_
      refine va_get (D := D) (ci := 5) (v := .int (nI ((min (nvl B z1467 0) 1000000)))) (C := RX5) (T := TX5) (N := 14) hx hb hts iX5_takeSigned_5 hown hN.1 hP 0 rfl rfl 6 (by decide) (hts _ mX5_takeSigned_3) (fun _ h9 => h9) rfl dX5_takeSigned_40 ?_
      refine lv_iload_n hx hb dX5_takeSigned_43 rfl (lv_at hl 3 rfl) ?_
      refine lv_icmp_le (tgt := 55) hx hb dX5_takeSigned_44 (by decide) (fun c1470 => ?_) (fun c1470 => ?_)
      · have c1470 : ((min (nvl B z1467 0) 1000000)) ≤ mm := (nI_leI (a := ((min (nvl B z1467 0) 1000000))) (b := mm) (by omega) (by omega)).mp c1470
        refine lv_aload_n hx hb dX5_takeSigned_55 rfl (lv_at hl 2 rfl) ?_
        refine lv_iload_n hx hb dX5_takeSigned_56 rfl (lv_at hl 1 rfl) ?_
        refine lv_if_eq (tgt := 68) hx hb dX5_takeSigned_57 (by decide) (fun c9 => absurd c9 (by decide)) (fun _ => ?_)
        refine lv_aload_n hx hb dX5_takeSigned_60 rfl (lv_at hl 2 rfl) ?_
        refine va_get (D := D) (ci := 5) (v := .int (nI ((min (nvl B z1467 0) 1000000)))) (C := RX5) (T := TX5) (N := 14) hx hb hts iX5_takeSigned_5 hown hN.1 hP 0 rfl rfl 6 (by decide) (hts _ mX5_takeSigned_3) (fun _ h9 => h9) rfl dX5_takeSigned_61 ?_
        refine lv_ineg hx hb dX5_takeSigned_64 ?_
        refine lv_goto (tgt := 72) hx hb dX5_takeSigned_65 (by decide) ?_
        have hB : Bx B0 D _ [(w, .inr (5, [.ref tx, .int (nI ((κ w).2.2.1)), .int (nI tn), .int (nI ((tkE B z1467))), .int (tkK B z1467), .int (nI z1467), .int (nI ((min (nvl B z1467 0) 1000000))), .int ta, .int tk, .ref co, .int (nI cc), su, .int ec, .int es]))] [] _ _ := Bx.of (fun a => (κ a).1) hL hP (fa_c hb1468 fa_n) (by simp only [List.map_cons, List.map_nil, hw.1]; decide)
        refine b_put (D := D) (ci := 5) (v := .int (-(nI ((min (nvl B z1467 0) 1000000))))) (ty := .int) (C := RX5) (T := TX5) (N := 14) hx hb hts iX5_takeSigned_5 tyX5 tyX5_ok nmX5 hown hN hB 0 rfl rfl 7 (by decide) (hts _ mX5_takeSigned_4) (fun _ h9 => h9) rfl (by decide +kernel) rfl rfl (Nat.le_of_ble_eq_true rfl) (.inl rfl) dX5_takeSigned_72 (fun H locs hB => ?_)
        have hB : Bx B0 D _ [(w, .inr (5, [.ref tx, .int (nI ((κ w).2.2.1)), .int (nI tn), .int (nI ((tkE B z1467))), .int (tkK B z1467), .int (nI z1467), .int (nI ((min (nvl B z1467 0) 1000000))), .int (-(nI ((min (nvl B z1467 0) 1000000)))), .int tk, .ref co, .int (nI cc), su, .int ec, .int es]))] [w] _ _ := hB
        refine lv_aload_n hx hb dX5_takeSigned_75 rfl (lv_at hl 2 rfl) ?_
        have hT : WT B0 D cs T κ _ := hT.close hB ⟨⟨0, _, rfl, ok_6 hw.1 ⟨_, _, _, _, _, _, _, _, _, _, _, _, _, rfl, (by omega), (by omega), (by omega), (by omega), (by omega), t1468_0, t1468_9, c1468_11, c1468_p2⟩⟩, trivial⟩
        have hF : Fr B0 [10] κ H0 _ := hF.close hB (fa_c (by simp [hw.2]) fa_n)
        have hL : OkL B0 _ := hB.2.2.2.2.2
        have hP : va_P D vwCl [(w, .inr (5, [.ref tx, .int (nI ((κ w).2.2.1)), .int (nI tn), .int (nI ((tkE B z1467))), .int (tkK B z1467), .int (nI z1467), .int (nI ((min (nvl B z1467 0) 1000000))), .int (-(nI ((min (nvl B z1467 0) 1000000)))), .int tk, .ref co, .int (nI cc), su, .int ec, .int es]))] _ := hB.1
        have hkw : va_at D vwCl (w, .inr (5, [.ref tx, .int (nI ((κ w).2.2.1)), .int (nI tn), .int (nI ((tkE B z1467))), .int (tkK B z1467), .int (nI z1467), .int (nI ((min (nvl B z1467 0) 1000000))), .int (-(nI ((min (nvl B z1467 0) 1000000)))), .int tk, .ref co, .int (nI cc), su, .int ec, .int es])) _ := hP 0 _ rfl
        have hktx := hktx.kept (hB.2.2.2.1 _ hktx.lt (by simp only [List.mem_cons, List.not_mem_nil, or_false, not_or]; exact ne_c htx.1 hw.1 (by decide)))
        have hkco := hkco.kept (hB.2.2.2.1 _ hkco.lt (by simp only [List.mem_cons, List.not_mem_nil, or_false, not_or]; exact ne_c hco.1 hw.1 (by decide)))
        refine cv_v (As := []) (rest := []) (b := w) ⟨hx, hb, hml, hown, hts⟩ (c_X5_step hT (w := w) hw (by first | omega | decide | assumption) (by first | omega | decide | assumption) (by first | omega | decide | assumption) (by first | omega | decide | assumption) (by first | omega | decide | assumption) ⟨hkw, hktx, hkco⟩) (cwV 0 hts gX5_takeSigned_X5_step rfl rfl rfl hdX5_step_v ⟨Nat.le_of_ble_eq_true rfl, Nat.le_of_ble_eq_true rfl⟩) hN hE hL (rcv6 hN hT hw.1) rfl rfl hl.1 (Nat.le_of_ble_eq_true rfl) dX5_takeSigned_76 (Nat.zero_le _) (Nat.zero_le _) (fun H1 locs hL hqr1471 => ?_)
        obtain ⟨hT1, hF1, hqr1471⟩ := hqr1471
        have hF := hF.tr (hF1.mono (by simp))
        have hT := hT1
        have m1472 := hqr1471
        obtain ⟨z1473, hz1473⟩ : ∃ z9, z9 = skp B ((tkE B z1467)) := ⟨_, rfl⟩
        rw [← hz1473] at m1472
        have bz1473 : z1473 ≤ tn := by rw [hz1473]; exact run_ub hY (by decide) (by omega)
        have hzE := tkE_le hY (s := z1473) (by omega)
        obtain ⟨hkw, hktx, hkco⟩ := m1472
        refine lv_iconst (v := 1) hx hb dX5_takeSigned_79 (by decide) ?_
        have hsg : sgz B z = z1467 := by unfold sgz; rw [if_pos e1462, ← tkE_m hY (by decide) e1462]; exact hz1467.symm
        have hsv : sgv B z = - nI (nvl B z1467 0) := by unfold sgv; rw [if_pos e1462, hsg]
        exact en_i hx hb hr hlocks hL rfl (Nat.zero_le _) (Nat.zero_le _) dX5_takeSigned_80 (⟨hT, hF, Or.inl ⟨rfl, by rw [hsg]; exact hd, by rw [hsg]; omega, by rw [hsv, hsg, ← he9, ← hz1473, ← show min (nvl B z1467 0) 1000000 = nvl B z1467 0 by omega]; exact ⟨hkw, hktx, hkco⟩⟩⟩)
      · have c1470 : ¬ ((min (nvl B z1467 0) 1000000)) ≤ mm := fun h9 => c1470 ((nI_leI (a := ((min (nvl B z1467 0) 1000000))) (b := mm) (by omega) (by omega)).mpr h9)
        refine lv_aload_n hx hb dX5_takeSigned_47 rfl (lv_at hl 2 rfl) ?_
        refine lv_bipush (v := (-3)) hx hb dX5_takeSigned_48 (by decide) ?_
        refine lv_iload_n hx hb dX5_takeSigned_50 rfl (lv_at hl 0 rfl) ?_
        refine cv_i (As := [.int (-3), .int (nI z)]) (rest := []) (b := w) ⟨hx, hb, hml, hown, hts⟩ (c_X5_fail hT (w := w) hw (x := (-3)) (y := (nI z)) (by first | omega | decide | assumption) (by first | omega | decide | assumption) (by first | omega | decide | assumption) (by first | omega | decide | assumption) (by first | omega | decide | assumption) ⟨hkw, hktx, hkco⟩) (cwV 2 hts gX5_takeSigned_X5_fail rfl rfl rfl hdX5_fail_v ⟨Nat.le_of_ble_eq_true rfl, Nat.le_of_ble_eq_true rfl⟩) hN hE hL (rcv6 hN hT hw.1) rfl rfl hl.1 (Nat.le_of_ble_eq_true rfl) dX5_takeSigned_51 (Nat.zero_le _) (Nat.zero_le _) (fun r1474 H1 locs hL hqr1474 => ?_)
        obtain ⟨hT1, hF1, hqr1474⟩ := hqr1474
        have hF := hF.tr (hF1.mono (by simp))
        have hT := hT1
        obtain ⟨rfl, m1475⟩ := hqr1474
        obtain ⟨hkw, hktx, hkco⟩ := m1475
        have hsg : sgz B z = z1467 := by unfold sgz; rw [if_pos e1462, ← tkE_m hY (by decide) e1462]; exact hz1467.symm
        exact en_i hx hb hr hlocks hL rfl (Nat.zero_le _) (Nat.zero_le _) dX5_takeSigned_54 (⟨hT, hF, Or.inr (Or.inr ⟨rfl, by rw [hsg]; exact hd, by rw [hsg]; omega, by rw [hsg, hv9]; exact ⟨hkw, hktx, hkco⟩⟩)⟩)
    · have hnd : ¬ isd (B z1467) := fun g9 => c1469 (tkK_1.mpr g9)
      refine lv_aload_n hx hb dX5_takeSigned_28 rfl (lv_at hl 2 rfl) ?_
      refine lv_bipush (v := (-2)) hx hb dX5_takeSigned_29 (by decide) ?_
      refine lv_aload_n hx hb dX5_takeSigned_31 rfl (lv_at hl 2 rfl) ?_
      refine va_get (D := D) (ci := 5) (v := .int (nI z1467)) (C := RX5) (T := TX5) (N := 14) hx hb hts iX5_takeSigned_5 hown hN.1 hP 0 rfl rfl 5 (by decide) (hts _ mX5_takeSigned_1) (fun _ h9 => h9) rfl dX5_takeSigned_32 ?_
      refine cv_i (As := [.int (-2), .int (nI z1467)]) (rest := []) (b := w) ⟨hx, hb, hml, hown, hts⟩ (c_X5_fail hT (w := w) hw (x := (-2)) (y := (nI z1467)) (by first | omega | decide | assumption) (by first | omega | decide | assumption) (by first | omega | decide | assumption) (by first | omega | decide | assumption) (by first | omega | decide | assumption) ⟨hkw, hktx, hkco⟩) (cwV 2 hts gX5_takeSigned_X5_fail rfl rfl rfl hdX5_fail_v ⟨Nat.le_of_ble_eq_true rfl, Nat.le_of_ble_eq_true rfl⟩) hN hE hL (rcv6 hN hT hw.1) rfl rfl hl.1 (Nat.le_of_ble_eq_true rfl) dX5_takeSigned_35 (Nat.zero_le _) (Nat.zero_le _) (fun r1476 H1 locs hL hqr1476 => ?_)
      obtain ⟨hT1, hF1, hqr1476⟩ := hqr1476
      have hF := hF.tr (hF1.mono (by simp))
      have hT := hT1
      obtain ⟨rfl, m1477⟩ := hqr1476
      obtain ⟨hkw, hktx, hkco⟩ := m1477
      have hsg : sgz B z = z1467 := by unfold sgz; rw [if_pos e1462, ← tkE_m hY (by decide) e1462]; exact hz1467.symm
      exact en_i hx hb hr hlocks hL rfl (Nat.zero_le _) (Nat.zero_le _) dX5_takeSigned_38 (⟨hT, hF, Or.inr (Or.inl ⟨rfl, by rw [hsg]; exact hnd, by rw [hsg]; exact ⟨hkw, hktx, hkco⟩⟩)⟩)
  · refine lv_istore_n (lv' := [(2, .int 0), (0, .ref w), (1, .int (nI mm))]) hx hb dX5_takeSigned_6 rfl hl (by decide) rfl (fun ls hl => ?_)
    refine lv_aload_n hx hb dX5_takeSigned_7 rfl (lv_at hl 1 rfl) ?_
    obtain ⟨hb1478, e1478, hat1478, hk1478⟩ := hT.o6 hw.1
    obtain ⟨f1478_0, f1478_2, f1478_3, f1478_4, f1478_5, f1478_6, f1478_7, f1478_8, f1478_9, f1478_10, f1478_11, f1478_12, f1478_13, rfl, c1478_1, c1478_2, c1478_3, c1478_5, c1478_10, t1478_0, t1478_9, c1478_11, c1478_p2⟩ := hk1478
    obtain ⟨rfl, rfl, rfl, rfl, rfl, rfl, rfl, rfl, rfl, rfl, rfl, rfl, rfl⟩ := eq6 hat1478 hkw (by omega)
    have hP : va_P D vwCl [(w, .inr (5, [.ref tx, .int (nI ((κ w).2.2.1)), .int (nI tn), .int (nI ((tkE B z))), .int (tkK B z), .int (nI z), .int (tkV B z), .int ta, .int tk, .ref co, .int (nI cc), su, .int ec, .int es]))] _ := va_P.cons hat1478 va_P.nil
    refine va_get (D := D) (ci := 5) (v := .int (nI z)) (C := RX5) (T := TX5) (N := 14) hx hb hts iX5_takeSigned_5 hown hN.1 hP 0 rfl rfl 5 (by decide) (hts _ mX5_takeSigned_1) (fun _ h9 => h9) rfl dX5_takeSigned_8 ?_
    refine lv_istore_n (lv' := [(3, .int (nI z)), (2, .int 0), (0, .ref w), (1, .int (nI mm))]) hx hb dX5_takeSigned_11 rfl hl (by decide) rfl (fun ls hl => ?_)
    refine lv_iload_n hx hb dX5_takeSigned_12 rfl (lv_at hl 1 rfl) ?_
    refine lv_if_eq (tgt := 20) hx hb dX5_takeSigned_13 (by decide) (fun _ => ?_) (fun c9 => absurd (by decide) c9)
    refine lv_aload_n hx hb dX5_takeSigned_20 rfl (lv_at hl 2 rfl) ?_
    refine va_get (D := D) (ci := 5) (v := .int (tkK B z)) (C := RX5) (T := TX5) (N := 14) hx hb hts iX5_takeSigned_5 hown hN.1 hP 0 rfl rfl 4 (by decide) (hts _ mX5_takeSigned_2) (fun _ h9 => h9) rfl dX5_takeSigned_21 ?_
    refine lv_iconst (v := 1) hx hb dX5_takeSigned_24 (by decide) ?_
    refine lv_icmp_eq (tgt := 39) hx hb dX5_takeSigned_25 (by decide) (fun c1479 => ?_) (fun c1479 => ?_)
    · have hd := tkK_1.mp c1479
      obtain ⟨-, hv9, he9⟩ := tk_d hd
      rw [hv9] at hP hkw
      refine lv_aload_n hx hb dX5_takeSigned_39 rfl (lv_at hl 2 rfl) ?_
      refine va_get (D := D) (ci := 5) (v := .int (nI ((min (nvl B z 0) 1000000)))) (C := RX5) (T := TX5) (N := 14) hx hb hts iX5_takeSigned_5 hown hN.1 hP 0 rfl rfl 6 (by decide) (hts _ mX5_takeSigned_3) (fun _ h9 => h9) rfl dX5_takeSigned_40 ?_
      refine lv_iload_n hx hb dX5_takeSigned_43 rfl (lv_at hl 3 rfl) ?_
      refine lv_icmp_le (tgt := 55) hx hb dX5_takeSigned_44 (by decide) (fun c1480 => ?_) (fun c1480 => ?_)
      · have c1480 : ((min (nvl B z 0) 1000000)) ≤ mm := (nI_leI (a := ((min (nvl B z 0) 1000000))) (b := mm) (by omega) (by omega)).mp c1480
        refine lv_aload_n hx hb dX5_takeSigned_55 rfl (lv_at hl 2 rfl) ?_
        refine lv_iload_n hx hb dX5_takeSigned_56 rfl (lv_at hl 1 rfl) ?_
        refine lv_if_eq (tgt := 68) hx hb dX5_takeSigned_57 (by decide) (fun _ => ?_) (fun c9 => absurd (by decide) c9)
        refine lv_aload_n hx hb dX5_takeSigned_68 rfl (lv_at hl 2 rfl) ?_
        refine va_get (D := D) (ci := 5) (v := .int (nI ((min (nvl B z 0) 1000000)))) (C := RX5) (T := TX5) (N := 14) hx hb hts iX5_takeSigned_5 hown hN.1 hP 0 rfl rfl 6 (by decide) (hts _ mX5_takeSigned_3) (fun _ h9 => h9) rfl dX5_takeSigned_69 ?_
        have hB : Bx B0 D _ [(w, .inr (5, [.ref tx, .int (nI ((κ w).2.2.1)), .int (nI tn), .int (nI ((tkE B z))), .int (tkK B z), .int (nI z), .int (nI ((min (nvl B z 0) 1000000))), .int ta, .int tk, .ref co, .int (nI cc), su, .int ec, .int es]))] [] _ _ := Bx.of (fun a => (κ a).1) hL hP (fa_c hb1478 fa_n) (by simp only [List.map_cons, List.map_nil, hw.1]; decide)
        refine b_put (D := D) (ci := 5) (v := .int (nI ((min (nvl B z 0) 1000000)))) (ty := .int) (C := RX5) (T := TX5) (N := 14) hx hb hts iX5_takeSigned_5 tyX5 tyX5_ok nmX5 hown hN hB 0 rfl rfl 7 (by decide) (hts _ mX5_takeSigned_4) (fun _ h9 => h9) rfl (by decide +kernel) rfl rfl (Nat.le_of_ble_eq_true rfl) (.inl rfl) dX5_takeSigned_72 (fun H locs hB => ?_)
        have hB : Bx B0 D _ [(w, .inr (5, [.ref tx, .int (nI ((κ w).2.2.1)), .int (nI tn), .int (nI ((tkE B z))), .int (tkK B z), .int (nI z), .int (nI ((min (nvl B z 0) 1000000))), .int (nI ((min (nvl B z 0) 1000000))), .int tk, .ref co, .int (nI cc), su, .int ec, .int es]))] [w] _ _ := hB
        refine lv_aload_n hx hb dX5_takeSigned_75 rfl (lv_at hl 2 rfl) ?_
        have hT : WT B0 D cs T κ _ := hT.close hB ⟨⟨0, _, rfl, ok_6 hw.1 ⟨_, _, _, _, _, _, _, _, _, _, _, _, _, rfl, (by omega), (by omega), (by omega), (by omega), (by omega), t1478_0, t1478_9, c1478_11, c1478_p2⟩⟩, trivial⟩
        have hF : Fr B0 [10] κ H0 _ := hF.close hB (fa_c (by simp [hw.2]) fa_n)
        have hL : OkL B0 _ := hB.2.2.2.2.2
        have hP : va_P D vwCl [(w, .inr (5, [.ref tx, .int (nI ((κ w).2.2.1)), .int (nI tn), .int (nI ((tkE B z))), .int (tkK B z), .int (nI z), .int (nI ((min (nvl B z 0) 1000000))), .int (nI ((min (nvl B z 0) 1000000))), .int tk, .ref co, .int (nI cc), su, .int ec, .int es]))] _ := hB.1
        have hkw : va_at D vwCl (w, .inr (5, [.ref tx, .int (nI ((κ w).2.2.1)), .int (nI tn), .int (nI ((tkE B z))), .int (tkK B z), .int (nI z), .int (nI ((min (nvl B z 0) 1000000))), .int (nI ((min (nvl B z 0) 1000000))), .int tk, .ref co, .int (nI cc), su, .int ec, .int es])) _ := hP 0 _ rfl
        have hktx := hktx.kept (hB.2.2.2.1 _ hktx.lt (by simp only [List.mem_cons, List.not_mem_nil, or_false, not_or]; exact ne_c htx.1 hw.1 (by decide)))
        have hkco := hkco.kept (hB.2.2.2.1 _ hkco.lt (by simp only [List.mem_cons, List.not_mem_nil, or_false, not_or]; exact ne_c hco.1 hw.1 (by decide)))
        refine cv_v (As := []) (rest := []) (b := w) ⟨hx, hb, hml, hown, hts⟩ (c_X5_step hT (w := w) hw (by first | omega | decide | assumption) (by first | omega | decide | assumption) (by first | omega | decide | assumption) (by first | omega | decide | assumption) (by first | omega | decide | assumption) ⟨hkw, hktx, hkco⟩) (cwV 0 hts gX5_takeSigned_X5_step rfl rfl rfl hdX5_step_v ⟨Nat.le_of_ble_eq_true rfl, Nat.le_of_ble_eq_true rfl⟩) hN hE hL (rcv6 hN hT hw.1) rfl rfl hl.1 (Nat.le_of_ble_eq_true rfl) dX5_takeSigned_76 (Nat.zero_le _) (Nat.zero_le _) (fun H1 locs hL hqr1481 => ?_)
        obtain ⟨hT1, hF1, hqr1481⟩ := hqr1481
        have hF := hF.tr (hF1.mono (by simp))
        have hT := hT1
        have m1482 := hqr1481
        obtain ⟨z1483, hz1483⟩ : ∃ z9, z9 = skp B ((tkE B z)) := ⟨_, rfl⟩
        rw [← hz1483] at m1482
        have bz1483 : z1483 ≤ tn := by rw [hz1483]; exact run_ub hY (by decide) (by omega)
        have hzE := tkE_le hY (s := z1483) (by omega)
        obtain ⟨hkw, hktx, hkco⟩ := m1482
        refine lv_iconst (v := 1) hx hb dX5_takeSigned_79 (by decide) ?_
        have hsg : sgz B z = z := by unfold sgz; rw [if_neg e1463]
        have hsv : sgv B z = nI (nvl B z 0) := by unfold sgv; rw [if_neg e1463, hsg]
        exact en_i hx hb hr hlocks hL rfl (Nat.zero_le _) (Nat.zero_le _) dX5_takeSigned_80 (⟨hT, hF, Or.inl ⟨rfl, by rw [hsg]; exact hd, by rw [hsg]; omega, by rw [hsv, hsg, ← he9, ← hz1483, ← show min (nvl B z 0) 1000000 = nvl B z 0 by omega]; exact ⟨hkw, hktx, hkco⟩⟩⟩)
      · have c1480 : ¬ ((min (nvl B z 0) 1000000)) ≤ mm := fun h9 => c1480 ((nI_leI (a := ((min (nvl B z 0) 1000000))) (b := mm) (by omega) (by omega)).mpr h9)
        refine lv_aload_n hx hb dX5_takeSigned_47 rfl (lv_at hl 2 rfl) ?_
        refine lv_bipush (v := (-3)) hx hb dX5_takeSigned_48 (by decide) ?_
        refine lv_iload_n hx hb dX5_takeSigned_50 rfl (lv_at hl 0 rfl) ?_
        refine cv_i (As := [.int (-3), .int (nI z)]) (rest := []) (b := w) ⟨hx, hb, hml, hown, hts⟩ (c_X5_fail hT (w := w) hw (x := (-3)) (y := (nI z)) (by first | omega | decide | assumption) (by first | omega | decide | assumption) (by first | omega | decide | assumption) (by first | omega | decide | assumption) (by first | omega | decide | assumption) ⟨hkw, hktx, hkco⟩) (cwV 2 hts gX5_takeSigned_X5_fail rfl rfl rfl hdX5_fail_v ⟨Nat.le_of_ble_eq_true rfl, Nat.le_of_ble_eq_true rfl⟩) hN hE hL (rcv6 hN hT hw.1) rfl rfl hl.1 (Nat.le_of_ble_eq_true rfl) dX5_takeSigned_51 (Nat.zero_le _) (Nat.zero_le _) (fun r1484 H1 locs hL hqr1484 => ?_)
        obtain ⟨hT1, hF1, hqr1484⟩ := hqr1484
        have hF := hF.tr (hF1.mono (by simp))
        have hT := hT1
        obtain ⟨rfl, m1485⟩ := hqr1484
        obtain ⟨hkw, hktx, hkco⟩ := m1485
        have hsg : sgz B z = z := by unfold sgz; rw [if_neg e1463]
        exact en_i hx hb hr hlocks hL rfl (Nat.zero_le _) (Nat.zero_le _) dX5_takeSigned_54 (⟨hT, hF, Or.inr (Or.inr ⟨rfl, by rw [hsg]; exact hd, by rw [hsg]; omega, by rw [hsg, hv9]; exact ⟨hkw, hktx, hkco⟩⟩)⟩)
    · have hnd : ¬ isd (B z) := fun g9 => c1479 (tkK_1.mpr g9)
      refine lv_aload_n hx hb dX5_takeSigned_28 rfl (lv_at hl 2 rfl) ?_
      refine lv_bipush (v := (-2)) hx hb dX5_takeSigned_29 (by decide) ?_
      refine lv_aload_n hx hb dX5_takeSigned_31 rfl (lv_at hl 2 rfl) ?_
      refine va_get (D := D) (ci := 5) (v := .int (nI z)) (C := RX5) (T := TX5) (N := 14) hx hb hts iX5_takeSigned_5 hown hN.1 hP 0 rfl rfl 5 (by decide) (hts _ mX5_takeSigned_1) (fun _ h9 => h9) rfl dX5_takeSigned_32 ?_
      refine cv_i (As := [.int (-2), .int (nI z)]) (rest := []) (b := w) ⟨hx, hb, hml, hown, hts⟩ (c_X5_fail hT (w := w) hw (x := (-2)) (y := (nI z)) (by first | omega | decide | assumption) (by first | omega | decide | assumption) (by first | omega | decide | assumption) (by first | omega | decide | assumption) (by first | omega | decide | assumption) ⟨hkw, hktx, hkco⟩) (cwV 2 hts gX5_takeSigned_X5_fail rfl rfl rfl hdX5_fail_v ⟨Nat.le_of_ble_eq_true rfl, Nat.le_of_ble_eq_true rfl⟩) hN hE hL (rcv6 hN hT hw.1) rfl rfl hl.1 (Nat.le_of_ble_eq_true rfl) dX5_takeSigned_35 (Nat.zero_le _) (Nat.zero_le _) (fun r1486 H1 locs hL hqr1486 => ?_)
      obtain ⟨hT1, hF1, hqr1486⟩ := hqr1486
      have hF := hF.tr (hF1.mono (by simp))
      have hT := hT1
      obtain ⟨rfl, m1487⟩ := hqr1486
      obtain ⟨hkw, hktx, hkco⟩ := m1487
      have hsg : sgz B z = z := by unfold sgz; rw [if_neg e1463]
      exact en_i hx hb hr hlocks hL rfl (Nat.zero_le _) (Nat.zero_le _) dX5_takeSigned_38 (⟨hT, hF, Or.inr (Or.inl ⟨rfl, by rw [hsg]; exact hnd, by rw [hsg]; exact ⟨hkw, hktx, hkco⟩⟩)⟩)
