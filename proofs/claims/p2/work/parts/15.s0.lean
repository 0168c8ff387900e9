theorem mJ0_coder_7d493_1 : (.fieldLink RJ0 38 "java/lang/String" "COMPACT_STRINGS" "Z" : Cond) ∈ wsJ0_coder_7d493 := List.mem_of_getElem? (i := 1) (by decide +kernel)
theorem mJ0_coder_7d493_2 : (.fieldLink RJ0 15 "java/lang/String" "coder" "B" : Cond) ∈ wsJ0_coder_7d493 := List.mem_of_getElem? (i := 2) (by decide +kernel)
set_option maxHeartbeats 4000000 in
set_option maxRecDepth 100000 in
theorem c_J0_coder_7d493 {l : Launch} {D : va_G} {cs : Nat → ClassId} {B0 T : Nat} {κ : KM} {H0 : Heap} (hT : WT B0 D cs T κ H0) {i : Nat} (hi9 : i ∈ nW) : KC l yJ0_coder_7d493 wsJ0_coder_7d493 0 0 0 0 D cs B0 H0 [.ref (cs (100 + i))] (Qi (fun r H => H = H0 ∧ r = 0)) := by
  refine KC.of cJ0_coder_7d493 1 (some .byte) (by decide) rfl (Nat.le_of_ble_eq_true rfl) ?_
  intro p e s m below meth c ls hx hb hr hml hown hts hlocks hin hN hE hH0 hl
  have hown : s.vm.findClass RJ0 = some m.cls := hown
  have hl : lv_has ls 1 [(0, .ref (cs (100 + i)))] := hl
  have hL : OkL B0 [] := OkL.nil
  refine W.vaS hL (fun hS => ?_)
  refine va_gets hx hb hE.2.2.1 hS hown (hts _ mJ0_coder_7d493_1) (fun _ h9 => h9) dJ0_coder_7d493_0 ?_
  refine lv_if_eq (tgt := 13) hx hb dJ0_coder_7d493_3 (by decide) (fun c9 => absurd c9 (by decide)) (fun _ => ?_)
  refine lv_aload_n hx hb dJ0_coder_7d493_6 rfl (lv_at hl 0 rfl) ?_
  refine W.vaS hL (fun hS => ?_)
  refine vk_getf hx hb (hE.2.1 _ hi9).2.1 hS hown (hts _ mJ0_coder_7d493_2) (fun _ h9 => h9) dJ0_coder_7d493_7 ?_
  refine lv_goto (tgt := 14) hx hb dJ0_coder_7d493_10 (by decide) ?_
  exact en_i hx hb hr hlocks hL rfl (Nat.zero_le _) (Nat.zero_le _) dJ0_coder_7d493_14 (⟨rfl, rfl⟩)
theorem mJ0_isLatin1_aae02_1 : (.fieldLink RJ0 38 "java/lang/String" "COMPACT_STRINGS" "Z" : Cond) ∈ wsJ0_isLatin1_aae02 := List.mem_of_getElem? (i := 1) (by decide +kernel)
theorem mJ0_isLatin1_aae02_2 : (.fieldLink RJ0 15 "java/lang/String" "coder" "B" : Cond) ∈ wsJ0_isLatin1_aae02 := List.mem_of_getElem? (i := 2) (by decide +kernel)
set_option maxHeartbeats 4000000 in
set_option maxRecDepth 100000 in
theorem c_J0_isLatin1_aae02 {l : Launch} {D : va_G} {cs : Nat → ClassId} {B0 T : Nat} {κ : KM} {H0 : Heap} (hT : WT B0 D cs T κ H0) {i : Nat} (hi9 : i ∈ nW) : KC l yJ0_isLatin1_aae02 wsJ0_isLatin1_aae02 0 0 0 0 D cs B0 H0 [.ref (cs (100 + i))] (Qi (fun r H => H = H0 ∧ r = 1)) := by
  refine KC.of cJ0_isLatin1_aae02 1 (some .boolean) (by decide) rfl (Nat.le_of_ble_eq_true rfl) ?_
  intro p e s m below meth c ls hx hb hr hml hown hts hlocks hin hN hE hH0 hl
  have hown : s.vm.findClass RJ0 = some m.cls := hown
  have hl : lv_has ls 1 [(0, .ref (cs (100 + i)))] := hl
  have hL : OkL B0 [] := OkL.nil
  refine W.vaS hL (fun hS => ?_)
  refine va_gets hx hb hE.2.2.1 hS hown (hts _ mJ0_isLatin1_aae02_1) (fun _ h9 => h9) dJ0_isLatin1_aae02_0 ?_
  refine lv_if_eq (tgt := 17) hx hb dJ0_isLatin1_aae02_3 (by decide) (fun c9 => absurd c9 (by decide)) (fun _ => ?_)
  refine lv_aload_n hx hb dJ0_isLatin1_aae02_6 rfl (lv_at hl 0 rfl) ?_
  refine W.vaS hL (fun hS => ?_)
  refine vk_getf hx hb (hE.2.1 _ hi9).2.1 hS hown (hts _ mJ0_isLatin1_aae02_2) (fun _ h9 => h9) dJ0_isLatin1_aae02_7 ?_
  refine lv_if_ne (tgt := 17) hx hb dJ0_isLatin1_aae02_10 (by decide) (fun c9 => absurd (by decide) c9) (fun _ => ?_)
  refine lv_iconst (v := 1) hx hb dJ0_isLatin1_aae02_13 (by decide) ?_
  refine lv_goto (tgt := 18) hx hb dJ0_isLatin1_aae02_14 (by decide) ?_
  exact en_i hx hb hr hlocks hL rfl (Nat.zero_le _) (Nat.zero_le _) dJ0_isLatin1_aae02_18 (⟨rfl, rfl⟩)
theorem mJ0_length_8abf5_1 : (.fieldLink RJ0 9 "java/lang/String" "value" "[B" : Cond) ∈ wsJ0_length_8abf5 := List.mem_of_getElem? (i := 1) (by decide +kernel)
theorem hdJ0_coder_7d493_v : yJ0_coder_7d493.cls = RJ0 ∧ yJ0_coder_7d493.cls ≠ "java/lang/invoke/MethodHandle" ∧ yJ0_coder_7d493.cls ≠ "java/lang/invoke/VarHandle" ∧ (parseMethodDescriptor yJ0_coder_7d493.desc).map (fun d => d.parameters.length) = some 0 := by decide +kernel
set_option maxHeartbeats 4000000 in
set_option maxRecDepth 100000 in
theorem c_J0_length_8abf5 {l : Launch} {D : va_G} {cs : Nat → ClassId} {B0 T : Nat} {κ : KM} {H0 : Heap} (hT : WT B0 D cs T κ H0) {i : Nat} (hi9 : i ∈ nW) : KC l yJ0_length_8abf5 wsJ0_length_8abf5 1 20 0 0 D cs B0 H0 [.ref (cs (100 + i))] (Qi (fun r H => H = H0 ∧ r = nI (nT i))) := by
  refine KC.of cJ0_length_8abf5 1 (some .int) (by decide) rfl (Nat.le_of_ble_eq_true rfl) ?_
  intro p e s m below meth c ls hx hb hr hml hown hts hlocks hin hN hE hH0 hl
  have hown : s.vm.findClass RJ0 = some m.cls := hown
  have hl : lv_has ls 1 [(0, .ref (cs (100 + i)))] := hl
  have hL : OkL B0 [] := OkL.nil
  refine lv_aload_n hx hb dJ0_length_8abf5_0 rfl (lv_at hl 0 rfl) ?_
  refine W.vaS hL (fun hS => ?_)
  refine vk_getf hx hb (hE.2.1 _ hi9).2.2.1 hS hown (hts _ mJ0_length_8abf5_1) (fun _ h9 => h9) dJ0_length_8abf5_1 ?_
  refine W.vaS hL (fun hS => ?_)
  obtain ⟨f9, hf9, hT9⟩ := (hE.2.1 _ hi9).2.2.2
  refine va_tlen (v := nI (nT i)) hx hb hT9 hS rfl dJ0_length_8abf5_4 ?_
  have hn9 := nT_le _ hi9
  refine lv_aload_n hx hb dJ0_length_8abf5_5 rfl (lv_at hl 0 rfl) ?_
  refine W.old hL (fun hold => ?_)
  refine cv_i (As := []) (rest := [.int (nI (nT i))]) (b := (cs (100 + i))) ⟨hx, hb, hml, hown, hts⟩ (c_J0_coder_7d493 hT (i := i) hi9) (cwV 0 hts gJ0_length_8abf5_J0_coder_7d493 rfl rfl rfl hdJ0_coder_7d493_v ⟨Nat.le_of_ble_eq_true rfl, Nat.le_of_ble_eq_true rfl⟩) hN hE hL (sx_rec (hE.2.1 _ hi9) hold) rfl rfl hl.1 (Nat.le_of_ble_eq_true rfl) dJ0_length_8abf5_6 (Nat.zero_le _) (Nat.zero_le _) (fun r1359 H1 locs hL hqr1359 => ?_)
  obtain ⟨h9, hqr1359⟩ := hqr1359; replace h9 := h9.symm; subst h9
  obtain rfl := hqr1359
  refine lv_ishr hx hb dJ0_length_8abf5_9 ?_
  refine tp_i (nI (nT i)) (shr0 _) ?_
  exact en_i hx hb hr hlocks hL rfl (Nat.zero_le _) (Nat.zero_le _) dJ0_length_8abf5_10 (⟨rfl, rfl⟩)
set_option maxHeartbeats 4000000 in
set_option maxRecDepth 100000 in
theorem c_J3_checkIndex_8e157 {l : Launch} {D : va_G} {cs : Nat → ClassId} {B0 T : Nat} {κ : KM} {H0 : Heap} (hT : WT B0 D cs T κ H0) {k n : Nat} {x : Value} (hx9 : x = .null ∨ ∃ a, x = .ref a) (hk : k < n) (hn : n ≤ 8) : KC l yJ3_checkIndex_8e157 wsJ3_checkIndex_8e157 0 0 0 0 D cs B0 H0 [.int (nI k), .int (nI n), x] (Qi (fun _ H => H = H0)) := by
  refine KC.of cJ3_checkIndex_8e157 3 (some .int) (by decide) rfl (by rcases hx9 with rfl | ⟨_, rfl⟩ <;> exact Nat.le_of_ble_eq_true rfl) ?_
  intro p e s m below meth c ls hx hb hr hml hown hts hlocks hin hN hE hH0 hl
  have hown : s.vm.findClass RJ3 = some m.cls := hown
  have hl : lv_has ls 3 [(0, .int (nI k)), (1, .int (nI n)), (2, x)] := hl
  have hL : OkL B0 [] := OkL.nil
  refine lv_iload_n hx hb dJ3_checkIndex_8e157_0 rfl (lv_at hl 0 rfl) ?_
  refine lv_if_lt (tgt := 9) hx hb dJ3_checkIndex_8e157_1 (by decide) (fun c1360 => ?_) (fun c1360 => ?_)
  · have c1360 : k < 0 := (nI_ltI (a := k) (b := 0) (by omega) (by omega)).mp c1360
    exact absurd c1360 (by omega)
  · have c1360 : ¬ k < 0 := fun h9 => c1360 ((nI_ltI (a := k) (b := 0) (by omega) (by omega)).mpr h9)
    refine lv_iload_n hx hb dJ3_checkIndex_8e157_4 rfl (lv_at hl 0 rfl) ?_
    refine lv_iload_n hx hb dJ3_checkIndex_8e157_5 rfl (lv_at hl 1 rfl) ?_
    refine lv_icmp_lt (tgt := 16) hx hb dJ3_checkIndex_8e157_6 (by decide) (fun c1361 => ?_) (fun c1361 => ?_)
    · have c1361 : k < n := (nI_ltI (a := k) (b := n) (by omega) (by omega)).mp c1361
      refine lv_iload_n hx hb dJ3_checkIndex_8e157_16 rfl (lv_at hl 0 rfl) ?_
      exact en_i hx hb hr hlocks hL rfl (Nat.zero_le _) (Nat.zero_le _) dJ3_checkIndex_8e157_17 (rfl)
    · have c1361 : ¬ k < n := fun h9 => c1361 ((nI_ltI (a := k) (b := n) (by omega) (by omega)).mpr h9)
      exact absurd (by omega) c1361
theorem mJ0_checkIndex_df160_1 : (.fieldLink RJ0 1053 "jdk/internal/util/Preconditions" "SIOOBE_FORMATTER" "Ljava/util/function/BiFunction;" : Cond) ∈ wsJ0_checkIndex_df160 := List.mem_of_getElem? (i := 1) (by decide +kernel)
theorem hdJ3_checkIndex_8e157_o : yJ3_checkIndex_8e157.cls ≠ "java/lang/invoke/MethodHandle" ∧ yJ3_checkIndex_8e157.cls ≠ "java/lang/invoke/VarHandle" ∧ (parseMethodDescriptor yJ3_checkIndex_8e157.desc).map (fun d => d.parameters.length) = some 3 := by decide +kernel
set_option maxHeartbeats 4000000 in
set_option maxRecDepth 100000 in
theorem c_J0_checkIndex_df160 {l : Launch} {D : va_G} {cs : Nat → ClassId} {B0 T : Nat} {κ : KM} {H0 : Heap} (hT : WT B0 D cs T κ H0) {k n : Nat} (hk : k < n) (hn : n ≤ 8) : KC l yJ0_checkIndex_df160 wsJ0_checkIndex_df160 1 22 0 0 D cs B0 H0 [.int (nI k), .int (nI n)] (Qv (fun H => H = H0)) := by
  refine KC.of cJ0_checkIndex_df160 2 none (by decide) rfl (Nat.le_of_ble_eq_true rfl) ?_
  intro p e s m below meth c ls hx hb hr hml hown hts hlocks hin hN hE hH0 hl
  have hown : s.vm.findClass RJ0 = some m.cls := hown
  have hl : lv_has ls 2 [(0, .int (nI k)), (1, .int (nI n))] := hl
  have hL : OkL B0 [] := OkL.nil
  refine lv_iload_n hx hb dJ0_checkIndex_df160_0 rfl (lv_at hl 0 rfl) ?_
  refine lv_iload_n hx hb dJ0_checkIndex_df160_1 rfl (lv_at hl 1 rfl) ?_
  refine W.vaS hL (fun hS => ?_)
  rcases hE.2.2.2 with hz9 | ⟨t9, hz9⟩
  · refine va_gets hx hb hz9 hS hown (hts _ mJ0_checkIndex_df160_1) (fun _ h9 => h9) dJ0_checkIndex_df160_2 ?_
    refine cs_i (As := [.int (nI k), .int (nI n), .null]) (rest := []) ⟨hx, hb, hml, hown, hts⟩ (c_J3_checkIndex_8e157 hT (k := k) (n := n) (x := .null) ((by first | exact Or.inl rfl | exact Or.inr ⟨_, rfl⟩)) (by first | omega | decide | assumption) (by first | omega | decide | assumption)) (va_cwS 3 hts gJ0_checkIndex_df160_J3_checkIndex_8e157 rfl rfl rfl hdJ3_checkIndex_8e157_o ⟨Nat.le_of_ble_eq_true rfl, Nat.le_of_ble_eq_true rfl⟩) hN hE hL rfl rfl hl.1 (Nat.le_of_ble_eq_true rfl) dJ0_checkIndex_df160_5 (Nat.zero_le _) (Nat.zero_le _) (fun r1362 H1 locs hL hqr1362 => ?_)
    obtain rfl := hqr1362.symm
    refine lv_pop hx hb dJ0_checkIndex_df160_8 rfl ?_
    exact en_v hx hb hr hlocks hL (Nat.zero_le _) (Nat.zero_le _) dJ0_checkIndex_df160_9 (rfl)
  · refine va_gets hx hb hz9 hS hown (hts _ mJ0_checkIndex_df160_1) (fun _ h9 => h9) dJ0_checkIndex_df160_2 ?_
    refine cs_i (As := [.int (nI k), .int (nI n), .ref t9]) (rest := []) ⟨hx, hb, hml, hown, hts⟩ (c_J3_checkIndex_8e157 hT (k := k) (n := n) (x := .ref t9) ((by first | exact Or.inl rfl | exact Or.inr ⟨_, rfl⟩)) (by first | omega | decide | assumption) (by first | omega | decide | assumption)) (va_cwS 3 hts gJ0_checkIndex_df160_J3_checkIndex_8e157 rfl rfl rfl hdJ3_checkIndex_8e157_o ⟨Nat.le_of_ble_eq_true rfl, Nat.le_of_ble_eq_true rfl⟩) hN hE hL rfl rfl hl.1 (Nat.le_of_ble_eq_true rfl) dJ0_checkIndex_df160_5 (Nat.zero_le _) (Nat.zero_le _) (fun r1363 H1 locs hL hqr1363 => ?_)
    obtain rfl := hqr1363.symm
    refine lv_pop hx hb dJ0_checkIndex_df160_8 rfl ?_
    exact en_v hx hb hr hlocks hL (Nat.zero_le _) (Nat.zero_le _) dJ0_checkIndex_df160_9 (rfl)
theorem hdJ0_checkIndex_df160_o : yJ0_checkIndex_df160.cls ≠ "java/lang/invoke/MethodHandle" ∧ yJ0_checkIndex_df160.cls ≠ "java/lang/invoke/VarHandle" ∧ (parseMethodDescriptor yJ0_checkIndex_df160.desc).map (fun d => d.parameters.length) = some 2 := by decide +kernel
set_option maxHeartbeats 4000000 in
set_option maxRecDepth 100000 in
theorem c_J1_charAt_3b067 {l : Launch} {D : va_G} {cs : Nat → ClassId} {B0 T : Nat} {κ : KM} {H0 : Heap} (hT : WT B0 D cs T κ H0) {i : Nat} (hi9 : i ∈ nW) {k : Nat} (hk : k < nT i) : KC l yJ1_charAt_3b067 wsJ1_charAt_3b067 2 43 0 0 D cs B0 H0 [.ref (cs (200 + i)), .int (nI k)] (Qi (fun r H => H = H0 ∧ ∃ n, n ≤ 255 ∧ r = nI n)) := by
  refine KC.of cJ1_charAt_3b067 2 (some .char) (by decide) rfl (Nat.le_of_ble_eq_true rfl) ?_
  intro p e s m below meth c ls hx hb hr hml hown hts hlocks hin hN hE hH0 hl
  have hown : s.vm.findClass RJ1 = some m.cls := hown
  have hl : lv_has ls 2 [(0, .ref (cs (200 + i))), (1, .int (nI k))] := hl
  have hL : OkL B0 [] := OkL.nil
  refine lv_iload_n hx hb dJ1_charAt_3b067_0 rfl (lv_at hl 1 rfl) ?_
  refine lv_aload_n hx hb dJ1_charAt_3b067_1 rfl (lv_at hl 0 rfl) ?_
  refine W.vaS hL (fun hS => ?_)
  obtain ⟨f9, hf9, hT9⟩ := (hE.2.1 _ hi9).2.2.2
  refine va_tlen (v := nI (nT i)) hx hb hT9 hS rfl dJ1_charAt_3b067_2 ?_
  have hn9 := nT_le _ hi9
  refine cs_v (As := [.int (nI k), .int (nI (nT i))]) (rest := []) ⟨hx, hb, hml, hown, hts⟩ (c_J0_checkIndex_df160 hT (k := k) (n := (nT i)) (by first | omega | decide | assumption) (by first | omega | decide | assumption)) (va_cwS 2 hts gJ1_charAt_3b067_J0_checkIndex_df160 rfl rfl rfl hdJ0_checkIndex_df160_o ⟨Nat.le_of_ble_eq_true rfl, Nat.le_of_ble_eq_true rfl⟩) hN hE hL rfl rfl hl.1 (Nat.le_of_ble_eq_true rfl) dJ1_charAt_3b067_3 (Nat.zero_le _) (Nat.zero_le _) (fun H1 locs hL hqr1364 => ?_)
  obtain rfl := hqr1364.symm
  refine lv_aload_n hx hb dJ1_charAt_3b067_6 rfl (lv_at hl 0 rfl) ?_
  refine lv_iload_n hx hb dJ1_charAt_3b067_7 rfl (lv_at hl 1 rfl) ?_
  refine W.vaS hL (fun hS => ?_)
  obtain ⟨f9, hf9, hT9⟩ := (hE.2.1 _ hi9).2.2.2
  have hn9 := nT_le _ hi9
  obtain ⟨x1365, hb9⟩ := hf9 (k) (by omega)
  refine va_tb (v := .int x1365) hx hb hT9 hS (vp_in_nI (n := k) (N := nT i) (by omega) (by omega)) (by rw [show ((nI k) : Int32).toNatClampNeg = k from nI_clamp (n := k) (by omega)]; exact hb9) dJ1_charAt_3b067_8 ?_
  refine lv_sipush (v := 255) hx hb dJ1_charAt_3b067_9 (by decide) ?_
  refine lv_iand hx hb dJ1_charAt_3b067_12 ?_
  have hj1366 := m255_lt x1365
  refine tp_i (nI (m255 x1365)) (and255 x1365) ?_
  refine lv_i2c (v := (nI (m255 x1365))) hx hb dJ1_charAt_3b067_13 (i2cn (by omega)) ?_
  exact en_i hx hb hr hlocks hL (nch (by omega)) (Nat.zero_le _) (Nat.zero_le _) dJ1_charAt_3b067_14 (⟨rfl, _, (by omega), rfl⟩)
theorem hdJ0_isLatin1_aae02_v : yJ0_isLatin1_aae02.cls = RJ0 ∧ yJ0_isLatin1_aae02.cls ≠ "java/lang/invoke/MethodHandle" ∧ yJ0_isLatin1_aae02.cls ≠ "java/lang/invoke/VarHandle" ∧ (parseMethodDescriptor yJ0_isLatin1_aae02.desc).map (fun d => d.parameters.length) = some 0 := by decide +kernel
theorem mJ0_charAt_5068e_1 : (.fieldLink RJ0 9 "java/lang/String" "value" "[B" : Cond) ∈ wsJ0_charAt_5068e := List.mem_of_getElem? (i := 1) (by decide +kernel)
theorem hdJ1_charAt_3b067_o : yJ1_charAt_3b067.cls ≠ "java/lang/invoke/MethodHandle" ∧ yJ1_charAt_3b067.cls ≠ "java/lang/invoke/VarHandle" ∧ (parseMethodDescriptor yJ1_charAt_3b067.desc).map (fun d => d.parameters.length) = some 2 := by decide +kernel
set_option maxHeartbeats 4000000 in
set_option maxRecDepth 100000 in
theorem c_J0_charAt_5068e {l : Launch} {D : va_G} {cs : Nat → ClassId} {B0 T : Nat} {κ : KM} {H0 : Heap} (hT : WT B0 D cs T κ H0) {i : Nat} (hi9 : i ∈ nW) {k : Nat} (hk : k < nT i) : KC l yJ0_charAt_5068e wsJ0_charAt_5068e 3 64 0 0 D cs B0 H0 [.ref (cs (100 + i)), .int (nI k)] (Qi (fun r H => H = H0 ∧ ∃ n, n ≤ 255 ∧ r = nI n)) := by
  refine KC.of cJ0_charAt_5068e 2 (some .char) (by decide) rfl (Nat.le_of_ble_eq_true rfl) ?_
  intro p e s m below meth c ls hx hb hr hml hown hts hlocks hin hN hE hH0 hl
  have hown : s.vm.findClass RJ0 = some m.cls := hown
  have hl : lv_has ls 2 [(0, .ref (cs (100 + i))), (1, .int (nI k))] := hl
  have hL : OkL B0 [] := OkL.nil
  refine lv_aload_n hx hb dJ0_charAt_5068e_0 rfl (lv_at hl 0 rfl) ?_
  refine W.old hL (fun hold => ?_)
  refine cv_i (As := []) (rest := []) (b := (cs (100 + i))) ⟨hx, hb, hml, hown, hts⟩ (c_J0_isLatin1_aae02 hT (i := i) hi9) (cwV 0 hts gJ0_charAt_5068e_J0_isLatin1_aae02 rfl rfl rfl hdJ0_isLatin1_aae02_v ⟨Nat.le_of_ble_eq_true rfl, Nat.le_of_ble_eq_true rfl⟩) hN hE hL (sx_rec (hE.2.1 _ hi9) hold) rfl rfl hl.1 (Nat.le_of_ble_eq_true rfl) dJ0_charAt_5068e_1 (Nat.zero_le _) (Nat.zero_le _) (fun r1367 H1 locs hL hqr1367 => ?_)
  obtain ⟨h9, hqr1367⟩ := hqr1367; replace h9 := h9.symm; subst h9
  obtain rfl := hqr1367
  refine lv_if_eq (tgt := 16) hx hb dJ0_charAt_5068e_4 (by decide) (fun c9 => absurd c9 (by decide)) (fun _ => ?_)
  refine lv_aload_n hx hb dJ0_charAt_5068e_7 rfl (lv_at hl 0 rfl) ?_
  refine W.vaS hL (fun hS => ?_)
  refine vk_getf hx hb (hE.2.1 _ hi9).2.2.1 hS hown (hts _ mJ0_charAt_5068e_1) (fun _ h9 => h9) dJ0_charAt_5068e_8 ?_
  refine lv_iload_n hx hb dJ0_charAt_5068e_11 rfl (lv_at hl 1 rfl) ?_
  refine cs_i (As := [.ref (cs (200 + i)), .int (nI k)]) (rest := []) ⟨hx, hb, hml, hown, hts⟩ (c_J1_charAt_3b067 hT (i := i) hi9 (k := k) (by first | omega | decide | assumption)) (va_cwS 2 hts gJ0_charAt_5068e_J1_charAt_3b067 rfl rfl rfl hdJ1_charAt_3b067_o ⟨Nat.le_of_ble_eq_true rfl, Nat.le_of_ble_eq_true rfl⟩) hN hE hL rfl rfl hl.1 (Nat.le_of_ble_eq_true rfl) dJ0_charAt_5068e_12 (Nat.zero_le _) (Nat.zero_le _) (fun r1368 H1 locs hL hqr1368 => ?_)
  obtain ⟨h9, hqr1368⟩ := hqr1368; replace h9 := h9.symm; subst h9
  obtain ⟨n1369, h1370, rfl⟩ := hqr1368
  exact en_i hx hb hr hlocks hL (nch (by omega)) (Nat.zero_le _) (Nat.zero_le _) dJ0_charAt_5068e_15 (⟨rfl, _, (by omega), rfl⟩)
theorem mX5_hasRoomFor_1 : (.fieldLink RX5 19 "OneBeat$Reader" "stored" "I" : Cond) ∈ wsX5_hasRoomFor := List.mem_of_getElem? (i := 1) (by decide +kernel)
theorem iX5_hasRoomFor_5 : ∀ w ∈ wsX50, w ∈ wsX5_hasRoomFor := fun w h => List.mem_of_mem_drop (List.mem_of_mem_take ((show wsX50 = (wsX5_hasRoomFor.drop 3).take 14 by decide +kernel) ▸ h))
theorem mX5_hasRoomFor_2 : (.fieldLink RX5 11 "OneBeat$Reader" "text" "[B" : Cond) ∈ wsX5_hasRoomFor := List.mem_of_getElem? (i := 2) (by decide +kernel)
set_option maxHeartbeats 4000000 in
set_option maxRecDepth 100000 in
theorem c_X5_hasRoomFor {l : Launch} {D : va_G} {cs : Nat → ClassId} {B0 T : Nat} {κ : KM} {H0 : Heap} (hT : WT B0 D cs T κ H0) {w : Nat} (hw : T2 κ w 6 10) {n : Nat} (hn : n ≤ 600) : KC l yX5_hasRoomFor wsX5_hasRoomFor 0 0 0 0 D cs B0 H0 [.ref w, .int (nI n)] (Qi (fun r H => H = H0 ∧ ((r = 0 ∧ 600 < (κ w).2.2.1 + n) ∨ (r = 1 ∧ (κ w).2.2.1 + n ≤ 600)))) := by
  refine KC.of cX5_hasRoomFor 2 (some .boolean) (by decide) rfl (Nat.le_of_ble_eq_true rfl) ?_
  intro p e s m below meth c ls hx hb hr hml hown hts hlocks hin hN hE hH0 hl
  have hown : s.vm.findClass RX5 = some m.cls := hown
  have hl : lv_has ls 2 [(0, .ref w), (1, .int (nI n))] := hl
  have hL : OkL B0 [] := OkL.nil
  refine lv_aload_n hx hb dX5_hasRoomFor_0 rfl (lv_at hl 0 rfl) ?_
  obtain ⟨hb1371, e1371, hat1371, hk1371⟩ := hT.o6 hw.1
  obtain ⟨f1371_0, f1371_2, f1371_3, f1371_4, f1371_5, f1371_6, f1371_7, f1371_8, f1371_9, f1371_10, f1371_11, f1371_12, f1371_13, rfl, c1371_1, c1371_2, c1371_3, c1371_5, c1371_10, t1371_0, t1371_9, c1371_11, c1371_p2⟩ := hk1371
  have hP : va_P D vwCl [(w, .inr (5, [.ref f1371_0, .int (nI ((κ w).2.2.1)), .int (nI f1371_2), .int (nI f1371_3), .int f1371_4, .int (nI f1371_5), .int f1371_6, .int f1371_7, .int f1371_8, .ref f1371_9, .int (nI f1371_10), f1371_11, .int f1371_12, .int f1371_13]))] _ := va_P.cons hat1371 va_P.nil
  refine va_get (D := D) (ci := 5) (v := .int (nI ((κ w).2.2.1))) (C := RX5) (T := TX5) (N := 14) hx hb hts iX5_hasRoomFor_5 hown hN.1 hP 0 rfl rfl 1 (by decide) (hts _ mX5_hasRoomFor_1) (fun _ h9 => h9) rfl dX5_hasRoomFor_1 ?_
  refine lv_iload_n hx hb dX5_hasRoomFor_4 rfl (lv_at hl 1 rfl) ?_
  refine lv_iadd hx hb dX5_hasRoomFor_5 ?_
  refine tp_i (nI (((κ w).2.2.1) + n)) (nI_add ((κ w).2.2.1) n) ?_
  refine lv_aload_n hx hb dX5_hasRoomFor_6 rfl (lv_at hl 0 rfl) ?_
  refine va_get (D := D) (ci := 5) (v := .ref f1371_0) (C := RX5) (T := TX5) (N := 14) hx hb hts iX5_hasRoomFor_5 hown hN.1 hP 0 rfl rfl 0 (by decide) (hts _ mX5_hasRoomFor_2) (fun _ h9 => h9) rfl dX5_hasRoomFor_7 ?_
  obtain ⟨hb1372, e1372, hat1372, hk1372⟩ := hT.o16 t1371_0.1
  obtain ⟨g1372, rfl⟩ := hk1372
  have hP : va_P D vwCl [(f1371_0, .inl (cs 1, 600, .inl g1372)), (w, .inr (5, [.ref f1371_0, .int (nI ((κ w).2.2.1)), .int (nI f1371_2), .int (nI f1371_3), .int f1371_4, .int (nI f1371_5), .int f1371_6, .int f1371_7, .int f1371_8, .ref f1371_9, .int (nI f1371_10), f1371_11, .int f1371_12, .int f1371_13]))] _ := va_P.cons hat1372 hP
  refine va_alen (v := 600) hx hb hN.1 hP 0 1 rfl rfl rfl dX5_hasRoomFor_10 ?_
  refine lv_icmp_gt (tgt := 18) hx hb dX5_hasRoomFor_11 (by decide) (fun c1373 => ?_) (fun c1373 => ?_)
  · have c1373 : 600 < (((κ w).2.2.1) + n) := (nI_ltI (a := 600) (b := (((κ w).2.2.1) + n)) (by omega) (by omega)).mp c1373
    refine lv_iconst (v := 0) hx hb dX5_hasRoomFor_18 (by decide) ?_
    exact en_i hx hb hr hlocks hL rfl (Nat.zero_le _) (Nat.zero_le _) dX5_hasRoomFor_19 (⟨rfl, Or.inl ⟨rfl, by omega⟩⟩)
  · have c1373 : ¬ 600 < (((κ w).2.2.1) + n) := fun h9 => c1373 ((nI_ltI (a := 600) (b := (((κ w).2.2.1) + n)) (by omega) (by omega)).mpr h9)
    refine lv_iconst (v := 1) hx hb dX5_hasRoomFor_14 (by decide) ?_
    refine lv_goto (tgt := 19) hx hb dX5_hasRoomFor_15 (by decide) ?_
    exact en_i hx hb hr hlocks hL rfl (Nat.zero_le _) (Nat.zero_le _) dX5_hasRoomFor_19 (⟨rfl, Or.inr ⟨rfl, by omega⟩⟩)
theorem mX5_store_1 : (.fieldLink RX5 19 "OneBeat$Reader" "stored" "I" : Cond) ∈ wsX5_store := List.mem_of_getElem? (i := 1) (by decide +kernel)
theorem iX5_store_5 : ∀ w ∈ wsX50, w ∈ wsX5_store := fun w h => List.mem_of_mem_drop (List.mem_of_mem_take ((show wsX50 = (wsX5_store.drop 3).take 14 by decide +kernel) ▸ h))
theorem mX5_store_2 : (.fieldLink RX5 11 "OneBeat$Reader" "text" "[B" : Cond) ∈ wsX5_store := List.mem_of_getElem? (i := 2) (by decide +kernel)
set_option maxHeartbeats 4000000 in
set_option maxRecDepth 100000 in
theorem c_X5_store {l : Launch} {D : va_G} {cs : Nat → ClassId} {B0 T : Nat} {κ : KM} {H0 : Heap} (hT : WT B0 D cs T κ H0) {w : Nat} (hw : T2 κ w 6 10) {x : Int32} (hs4 : (κ w).2.2.1 + 4 ≤ 600) : KC l yX5_store wsX5_store 0 0 0 0 D cs B0 H0 [.ref w, .int x] (Qv (fun H => WT B0 D cs T (kp κ w ((κ w).2.2.1 + 4) (κ w).2.2.2) H ∧ Fr B0 [10] κ H0 H)) := by
  refine KC.of cX5_store 3 none (by decide) rfl (Nat.le_of_ble_eq_true rfl) ?_
  intro p e s m below meth c ls hx hb hr hml hown hts hlocks hin hN hE hH0 hl
  have hown : s.vm.findClass RX5 = some m.cls := hown
  have hl : lv_has ls 3 [(0, .ref w), (1, .int x)] := hl
  have hL : OkL B0 [] := OkL.nil
  have hF : Fr B0 [10] κ H0 H0 := Fr.rf
  refine lv_bipush (v := 24) hx hb dX5_store_0 (by decide) ?_
  refine lv_istore_n (lv' := [(2, .int 24), (0, .ref w), (1, .int x)]) hx hb dX5_store_2 rfl hl (by decide) rfl (fun ls hl => ?_)
  refine lv_iload_n hx hb dX5_store_3 rfl (lv_at hl 0 rfl) ?_
  refine lv_if_lt (tgt := 48) hx hb dX5_store_4 (by decide) (fun c9 => absurd c9 (by decide)) (fun _ => ?_)
  refine lv_aload_n hx hb dX5_store_7 rfl (lv_at hl 1 rfl) ?_
  obtain ⟨hb1374, e1374, hat1374, hk1374⟩ := hT.o6 hw.1
  obtain ⟨f1374_0, f1374_2, f1374_3, f1374_4, f1374_5, f1374_6, f1374_7, f1374_8, f1374_9, f1374_10, f1374_11, f1374_12, f1374_13, rfl, c1374_1, c1374_2, c1374_3, c1374_5, c1374_10, t1374_0, t1374_9, c1374_11, c1374_p2⟩ := hk1374
  have hP : va_P D vwCl [(w, .inr (5, [.ref f1374_0, .int (nI ((κ w).2.2.1)), .int (nI f1374_2), .int (nI f1374_3), .int f1374_4, .int (nI f1374_5), .int f1374_6, .int f1374_7, .int f1374_8, .ref f1374_9, .int (nI f1374_10), f1374_11, .int f1374_12, .int f1374_13]))] _ := va_P.cons hat1374 va_P.nil
  refine va_get (D := D) (ci := 5) (v := .int (nI ((κ w).2.2.1))) (C := RX5) (T := TX5) (N := 14) hx hb hts iX5_store_5 hown hN.1 hP 0 rfl rfl 1 (by decide) (hts _ mX5_store_1) (fun _ h9 => h9) rfl dX5_store_8 ?_
  refine lv_aload_n hx hb dX5_store_11 rfl (lv_at hl 1 rfl) ?_
  refine va_get (D := D) (ci := 5) (v := .ref f1374_0) (C := RX5) (T := TX5) (N := 14) hx hb hts iX5_store_5 hown hN.1 hP 0 rfl rfl 0 (by decide) (hts _ mX5_store_2) (fun _ h9 => h9) rfl dX5_store_12 ?_
  obtain ⟨hb1375, e1375, hat1375, hk1375⟩ := hT.o16 t1374_0.1
  obtain ⟨g1375, rfl⟩ := hk1375
  have hP : va_P D vwCl [(f1374_0, .inl (cs 1, 600, .inl g1375)), (w, .inr (5, [.ref f1374_0, .int (nI ((κ w).2.2.1)), .int (nI f1374_2), .int (nI f1374_3), .int f1374_4, .int (nI f1374_5), .int f1374_6, .int f1374_7, .int f1374_8, .ref f1374_9, .int (nI f1374_10), f1374_11, .int f1374_12, .int f1374_13]))] _ := va_P.cons hat1375 hP
  refine va_alen (v := 600) hx hb hN.1 hP 0 1 rfl rfl rfl dX5_store_15 ?_
  refine lv_icmp_ge (tgt := 48) hx hb dX5_store_16 (by decide) (fun c1376 => ?_) (fun c1376 => ?_)
  · have c1376 : 600 ≤ ((κ w).2.2.1) := (nI_leI (a := 600) (b := ((κ w).2.2.1)) (by omega) (by omega)).mp c1376
    exact absurd c1376 (by omega)
  · have c1376 : ¬ 600 ≤ ((κ w).2.2.1) := fun h9 => c1376 ((nI_leI (a := 600) (b := ((κ w).2.2.1)) (by omega) (by omega)).mpr h9)
    refine lv_aload_n hx hb dX5_store_19 rfl (lv_at hl 1 rfl) ?_
    refine va_get (D := D) (ci := 5) (v := .ref f1374_0) (C := RX5) (T := TX5) (N := 14) hx hb hts iX5_store_5 hown hN.1 hP 1 rfl rfl 0 (by decide) (hts _ mX5_store_2) (fun _ h9 => h9) rfl dX5_store_20 ?_
    refine lv_aload_n hx hb dX5_store_23 rfl (lv_at hl 1 rfl) ?_
    refine va_get (D := D) (ci := 5) (v := .int (nI ((κ w).2.2.1))) (C := RX5) (T := TX5) (N := 14) hx hb hts iX5_store_5 hown hN.1 hP 1 rfl rfl 1 (by decide) (hts _ mX5_store_1) (fun _ h9 => h9) rfl dX5_store_24 ?_
    refine lv_iload_n hx hb dX5_store_27 rfl (lv_at hl 2 rfl) ?_
    refine lv_iload_n hx hb dX5_store_28 rfl (lv_at hl 0 rfl) ?_
    refine lv_ishr hx hb dX5_store_29 ?_
    refine gn_i (fun x1377 => ?_)
    refine lv_i2b hx hb dX5_store_30 rfl ?_
    refine gn_i (fun x1378 => ?_)
    have hB : Bx B0 D _ [(f1374_0, .inl (cs 1, 600, .inl g1375)), (w, .inr (5, [.ref f1374_0, .int (nI ((κ w).2.2.1)), .int (nI f1374_2), .int (nI f1374_3), .int f1374_4, .int (nI f1374_5), .int f1374_6, .int f1374_7, .int f1374_8, .ref f1374_9, .int (nI f1374_10), f1374_11, .int f1374_12, .int f1374_13]))] [] _ _ := Bx.of (fun a => (κ a).1) hL hP (fa_c hb1375 (fa_c hb1374 fa_n)) (by simp only [List.map_cons, List.map_nil, t1374_0.1, hw.1]; decide)
    refine b_b hx hb hN hB 0 rfl (vp_in_nI (n := ((κ w).2.2.1)) (N := 600) (by omega) (by omega)) (.inl rfl) dX5_store_31 (fun H locs hB => ?_)
    rw [(show ((nI ((κ w).2.2.1)) : Int32).toNatClampNeg = ((κ w).2.2.1) from nI_clamp (n := ((κ w).2.2.1)) (by omega))] at hB
    have hB : Bx B0 D _ [(f1374_0, .inl (cs 1, 600, .inl (upd g1375 ((κ w).2.2.1) (vp_nar .byte x1378)))), (w, .inr (5, [.ref f1374_0, .int (nI ((κ w).2.2.1)), .int (nI f1374_2), .int (nI f1374_3), .int f1374_4, .int (nI f1374_5), .int f1374_6, .int f1374_7, .int f1374_8, .ref f1374_9, .int (nI f1374_10), f1374_11, .int f1374_12, .int f1374_13]))] [f1374_0] _ _ := hB
    generalize (upd g1375 ((κ w).2.2.1) (vp_nar .byte x1378)) = g1379 at hB
    refine lv_aload_n hx hb dX5_store_32 rfl (lv_at hl 1 rfl) ?_
    refine lv_dup hx hb dX5_store_33 rfl ?_
    refine va_get (D := D) (ci := 5) (v := .int (nI ((κ w).2.2.1))) (C := RX5) (T := TX5) (N := 14) hx hb hts iX5_store_5 hown hN.1 hB.1 1 rfl rfl 1 (by decide) (hts _ mX5_store_1) (fun _ h9 => h9) rfl dX5_store_34 ?_
    refine lv_iconst (v := 1) hx hb dX5_store_37 (by decide) ?_
    refine lv_iadd hx hb dX5_store_38 ?_
    refine tp_i (nI (((κ w).2.2.1) + 1)) (nI_add ((κ w).2.2.1) 1) ?_
    refine b_put (D := D) (ci := 5) (v := .int (nI (((κ w).2.2.1) + 1))) (ty := .int) (C := RX5) (T := TX5) (N := 14) hx hb hts iX5_store_5 tyX5 tyX5_ok nmX5 hown hN hB 1 rfl rfl 1 (by decide) (hts _ mX5_store_1) (fun _ h9 => h9) rfl (by decide +kernel) rfl rfl (Nat.le_of_ble_eq_true rfl) (.inl rfl) dX5_store_39 (fun H locs hB => ?_)
    have hB : Bx B0 D _ [(f1374_0, .inl (cs 1, 600, .inl g1379)), (w, .inr (5, [.ref f1374_0, .int (nI (((κ w).2.2.1) + 1)), .int (nI f1374_2), .int (nI f1374_3), .int f1374_4, .int (nI f1374_5), .int f1374_6, .int f1374_7, .int f1374_8, .ref f1374_9, .int (nI f1374_10), f1374_11, .int f1374_12, .int f1374_13]))] [w, f1374_0] _ _ := hB
    refine lv_iinc (v := 16) (lv' := [(2, .int 16), (0, .ref w), (1, .int x)]) hx hb dX5_store_42 hl (k := 0) rfl (by decide) (by decide) rfl (fun ls hl => ?_)
    refine lv_goto (tgt := 3) hx hb dX5_store_45 (by decide) ?_
    refine lv_iload_n hx hb dX5_store_3 rfl (lv_at hl 0 rfl) ?_
    refine lv_if_lt (tgt := 48) hx hb dX5_store_4 (by decide) (fun c9 => absurd c9 (by decide)) (fun _ => ?_)
    refine lv_aload_n hx hb dX5_store_7 rfl (lv_at hl 1 rfl) ?_
    refine va_get (D := D) (ci := 5) (v := .int (nI (((κ w).2.2.1) + 1))) (C := RX5) (T := TX5) (N := 14) hx hb hts iX5_store_5 hown hN.1 hB.1 1 rfl rfl 1 (by decide) (hts _ mX5_store_1) (fun _ h9 => h9) rfl dX5_store_8 ?_
    refine lv_aload_n hx hb dX5_store_11 rfl (lv_at hl 1 rfl) ?_
    refine va_get (D := D) (ci := 5) (v := .ref f1374_0) (C := RX5) (T := TX5) (N := 14) hx hb hts iX5_store_5 hown hN.1 hB.1 1 rfl rfl 0 (by decide) (hts _ mX5_store_2) (fun _ h9 => h9) rfl dX5_store_12 ?_
    refine va_alen (v := 600) hx hb hN.1 hB.1 0 1 rfl rfl rfl dX5_store_15 ?_
    refine lv_icmp_ge (tgt := 48) hx hb dX5_store_16 (by decide) (fun c1380 => ?_) (fun c1380 => ?_)
    · have c1380 : 600 ≤ (((κ w).2.2.1) + 1) := (nI_leI (a := 600) (b := (((κ w).2.2.1) + 1)) (by omega) (by omega)).mp c1380
      exact absurd c1380 (by omega)
    · have c1380 : ¬ 600 ≤ (((κ w).2.2.1) + 1) := fun h9 => c1380 ((nI_leI (a := 600) (b := (((κ w).2.2.1) + 1)) (by omega) (by omega)).mpr h9)
      refine lv_aload_n hx hb dX5_store_19 rfl (lv_at hl 1 rfl) ?_
      refine va_get (D := D) (ci := 5) (v := .ref f1374_0) (C := RX5) (T := TX5) (N := 14) hx hb hts iX5_store_5 hown hN.1 hB.1 1 rfl rfl 0 (by decide) (hts _ mX5_store_2) (fun _ h9 => h9) rfl dX5_store_20 ?_
      refine lv_aload_n hx hb dX5_store_23 rfl (lv_at hl 1 rfl) ?_
      refine va_get (D := D) (ci := 5) (v := .int (nI (((κ w).2.2.1) + 1))) (C := RX5) (T := TX5) (N := 14) hx hb hts iX5_store_5 hown hN.1 hB.1 1 rfl rfl 1 (by decide) (hts _ mX5_store_1) (fun _ h9 => h9) rfl dX5_store_24 ?_
      refine lv_iload_n hx hb dX5_store_27 rfl (lv_at hl 2 rfl) ?_
      refine lv_iload_n hx hb dX5_store_28 rfl (lv_at hl 0 rfl) ?_
      refine lv_ishr hx hb dX5_store_29 ?_
      refine gn_i (fun x1381 => ?_)
      refine lv_i2b hx hb dX5_store_30 rfl ?_
      refine gn_i (fun x1382 => ?_)
      refine b_b hx hb hN hB 0 rfl (vp_in_nI (n := (((κ w).2.2.1) + 1)) (N := 600) (by omega) (by omega)) (.inr ⟨rfl, List.mem_of_getElem? (i := 1) rfl⟩) dX5_store_31 (fun H locs hB => ?_)
      rw [(show ((nI (((κ w).2.2.1) + 1)) : Int32).toNatClampNeg = (((κ w).2.2.1) + 1) from nI_clamp (n := (((κ w).2.2.1) + 1)) (by omega))] at hB
      have hB : Bx B0 D _ [(f1374_0, .inl (cs 1, 600, .inl (upd g1379 (((κ w).2.2.1) + 1) (vp_nar .byte x1382)))), (w, .inr (5, [.ref f1374_0, .int (nI (((κ w).2.2.1) + 1)), .int (nI f1374_2), .int (nI f1374_3), .int f1374_4, .int (nI f1374_5), .int f1374_6, .int f1374_7, .int f1374_8, .ref f1374_9, .int (nI f1374_10), f1374_11, .int f1374_12, .int f1374_13]))] [w, f1374_0] _ _ := hB
      generalize (upd g1379 (((κ w).2.2.1) + 1) (vp_nar .byte x1382)) = g1383 at hB
      refine lv_aload_n hx hb dX5_store_32 rfl (lv_at hl 1 rfl) ?_
      refine lv_dup hx hb dX5_store_33 rfl ?_
      refine va_get (D := D) (ci := 5) (v := .int (nI (((κ w).2.2.1) + 1))) (C := RX5) (T := TX5) (N := 14) hx hb hts iX5_store_5 hown hN.1 hB.1 1 rfl rfl 1 (by decide) (hts _ mX5_store_1) (fun _ h9 => h9) rfl dX5_store_34 ?_
      refine lv_iconst (v := 1) hx hb dX5_store_37 (by decide) ?_
      refine lv_iadd hx hb dX5_store_38 ?_
      refine tp_i (nI ((((κ w).2.2.1) + 1) + 1)) (nI_add (((κ w).2.2.1) + 1) 1) ?_
      refine b_put (D := D) (ci := 5) (v := .int (nI ((((κ w).2.2.1) + 1) + 1))) (ty := .int) (C := RX5) (T := TX5) (N := 14) hx hb hts iX5_store_5 tyX5 tyX5_ok nmX5 hown hN hB 1 rfl rfl 1 (by decide) (hts _ mX5_store_1) (fun _ h9 => h9) rfl (by decide +kernel) rfl rfl (Nat.le_of_ble_eq_true rfl) (.inr ⟨rfl, List.mem_of_getElem? (i := 0) rfl⟩) dX5_store_39 (fun H locs hB => ?_)
      have hB : Bx B0 D _ [(f1374_0, .inl (cs 1, 600, .inl g1383)), (w, .inr (5, [.ref f1374_0, .int (nI ((((κ w).2.2.1) + 1) + 1)), .int (nI f1374_2), .int (nI f1374_3), .int f1374_4, .int (nI f1374_5), .int f1374_6, .int f1374_7, .int f1374_8, .ref f1374_9, .int (nI f1374_10), f1374_11, .int f1374_12, .int f1374_13]))] [w, f1374_0] _ _ := hB
      refine lv_iinc (v := 8) (lv' := [(2, .int 8), (0, .ref w), (1, .int x)]) hx hb dX5_store_42 hl (k := 0) rfl (by decide) (by decide) rfl (fun ls hl => ?_)
      refine lv_goto (tgt := 3) hx hb dX5_store_45 (by decide) ?_
      refine lv_iload_n hx hb dX5_store_3 rfl (lv_at hl 0 rfl) ?_
      refine lv_if_lt (tgt := 48) hx hb dX5_store_4 (by decide) (fun c9 => absurd c9 (by decide)) (fun _ => ?_)
      refine lv_aload_n hx hb dX5_store_7 rfl (lv_at hl 1 rfl) ?_
      refine va_get (D := D) (ci := 5) (v := .int (nI ((((κ w).2.2.1) + 1) + 1))) (C := RX5) (T := TX5) (N := 14) hx hb hts iX5_store_5 hown hN.1 hB.1 1 rfl rfl 1 (by decide) (hts _ mX5_store_1) (fun _ h9 => h9) rfl dX5_store_8 ?_
      refine lv_aload_n hx hb dX5_store_11 rfl (lv_at hl 1 rfl) ?_
      refine va_get (D := D) (ci := 5) (v := .ref f1374_0) (C := RX5) (T := TX5) (N := 14) hx hb hts iX5_store_5 hown hN.1 hB.1 1 rfl rfl 0 (by decide) (hts _ mX5_store_2) (fun _ h9 => h9) rfl dX5_store_12 ?_
      refine va_alen (v := 600) hx hb hN.1 hB.1 0 1 rfl rfl rfl dX5_store_15 ?_
      refine lv_icmp_ge (tgt := 48) hx hb dX5_store_16 (by decide) (fun c1384 => ?_) (fun c1384 => ?_)
      · have c1384 : 600 ≤ ((((κ w).2.2.1) + 1) + 1) := (nI_leI (a := 600) (b := ((((κ w).2.2.1) + 1) + 1)) (by omega) (by omega)).mp c1384
        exact absurd c1384 (by omega)
      · have c1384 : ¬ 600 ≤ ((((κ w).2.2.1) + 1) + 1) := fun h9 => c1384 ((nI_leI (a := 600) (b := ((((κ w).2.2.1) + 1) + 1)) (by omega) (by omega)).mpr h9)
        refine lv_aload_n hx hb dX5_store_19 rfl (lv_at hl 1 rfl) ?_
        refine va_get (D := D) (ci := 5) (v := .ref f1374_0) (C := RX5) (T := TX5) (N := 14) hx hb hts iX5_store_5 hown hN.1 hB.1 1 rfl rfl 0 (by decide) (hts _ mX5_store_2) (fun _ h9 => h9) rfl dX5_store_20 ?_
        refine lv_aload_n hx hb dX5_store_23 rfl (lv_at hl 1 rfl) ?_
        refine va_get (D := D) (ci := 5) (v := .int (nI ((((κ w).2.2.1) + 1) + 1))) (C := RX5) (T := TX5) (N := 14) hx hb hts iX5_store_5 hown hN.1 hB.1 1 rfl rfl 1 (by decide) (hts _ mX5_store_1) (fun _ h9 => h9) rfl dX5_store_24 ?_
        refine lv_iload_n hx hb dX5_store_27 rfl (lv_at hl 2 rfl) ?_
        refine lv_iload_n hx hb dX5_store_28 rfl (lv_at hl 0 rfl) ?_
        refine lv_ishr hx hb dX5_store_29 ?_
        refine gn_i (fun x1385 => ?_)
        refine lv_i2b hx hb dX5_store_30 rfl ?_
        refine gn_i (fun x1386 => ?_)
        refine b_b hx hb hN hB 0 rfl (vp_in_nI (n := ((((κ w).2.2.1) + 1) + 1)) (N := 600) (by omega) (by omega)) (.inr ⟨rfl, List.mem_of_getElem? (i := 1) rfl⟩) dX5_store_31 (fun H locs hB => ?_)
        rw [(show ((nI ((((κ w).2.2.1) + 1) + 1)) : Int32).toNatClampNeg = ((((κ w).2.2.1) + 1) + 1) from nI_clamp (n := ((((κ w).2.2.1) + 1) + 1)) (by omega))] at hB
        have hB : Bx B0 D _ [(f1374_0, .inl (cs 1, 600, .inl (upd g1383 ((((κ w).2.2.1) + 1) + 1) (vp_nar .byte x1386)))), (w, .inr (5, [.ref f1374_0, .int (nI ((((κ w).2.2.1) + 1) + 1)), .int (nI f1374_2), .int (nI f1374_3), .int f1374_4, .int (nI f1374_5), .int f1374_6, .int f1374_7, .int f1374_8, .ref f1374_9, .int (nI f1374_10), f1374_11, .int f1374_12, .int f1374_13]))] [w, f1374_0] _ _ := hB
        generalize (upd g1383 ((((κ w).2.2.1) + 1) + 1) (vp_nar .byte x1386)) = g1387 at hB
        refine lv_aload_n hx hb dX5_store_32 rfl (lv_at hl 1 rfl) ?_
        refine lv_dup hx hb dX5_store_33 rfl ?_
        refine va_get (D := D) (ci := 5) (v := .int (nI ((((κ w).2.2.1) + 1) + 1))) (C := RX5) (T := TX5) (N := 14) hx hb hts iX5_store_5 hown hN.1 hB.1 1 rfl rfl 1 (by decide) (hts _ mX5_store_1) (fun _ h9 => h9) rfl dX5_store_34 ?_
        refine lv_iconst (v := 1) hx hb dX5_store_37 (by decide) ?_
        refine lv_iadd hx hb dX5_store_38 ?_
        refine tp_i (nI (((((κ w).2.2.1) + 1) + 1) + 1)) (nI_add ((((κ w).2.2.1) + 1) + 1) 1) ?_
        refine b_put (D := D) (ci := 5) (v := .int (nI (((((κ w).2.2.1) + 1) + 1) + 1))) (ty := .int) (C := RX5) (T := TX5) (N := 14) hx hb hts iX5_store_5 tyX5 tyX5_ok nmX5 hown hN hB 1 rfl rfl 1 (by decide) (hts _ mX5_store_1) (fun _ h9 => h9) rfl (by decide +kernel) rfl rfl (Nat.le_of_ble_eq_true rfl) (.inr ⟨rfl, List.mem_of_getElem? (i := 0) rfl⟩) dX5_store_39 (fun H locs hB => ?_)
        have hB : Bx B0 D _ [(f1374_0, .inl (cs 1, 600, .inl g1387)), (w, .inr (5, [.ref f1374_0, .int (nI (((((κ w).2.2.1) + 1) + 1) + 1)), .int (nI f1374_2), .int (nI f1374_3), .int f1374_4, .int (nI f1374_5), .int f1374_6, .int f1374_7, .int f1374_8, .ref f1374_9, .int (nI f1374_10), f1374_11, .int f1374_12, .int f1374_13]))] [w, f1374_0] _ _ := hB
        refine lv_iinc (v := 0) (lv' := [(2, .int 0), (0, .ref w), (1, .int x)]) hx hb dX5_store_42 hl (k := 0) rfl (by decide) (by decide) rfl (fun ls hl => ?_)
        refine lv_goto (tgt := 3) hx hb dX5_store_45 (by decide) ?_
        refine lv_iload_n hx hb dX5_store_3 rfl (lv_at hl 0 rfl) ?_
        refine lv_if_lt (tgt := 48) hx hb dX5_store_4 (by decide) (fun c9 => absurd c9 (by decide)) (fun _ => ?_)
        refine lv_aload_n hx hb dX5_store_7 rfl (lv_at hl 1 rfl) ?_
        refine va_get (D := D) (ci := 5) (v := .int (nI (((((κ w).2.2.1) + 1) + 1) + 1))) (C := RX5) (T := TX5) (N := 14) hx hb hts iX5_store_5 hown hN.1 hB.1 1 rfl rfl 1 (by decide) (hts _ mX5_store_1) (fun _ h9 => h9) rfl dX5_store_8 ?_
        refine lv_aload_n hx hb dX5_store_11 rfl (lv_at hl 1 rfl) ?_
        refine va_get (D := D) (ci := 5) (v := .ref f1374_0) (C := RX5) (T := TX5) (N := 14) hx hb hts iX5_store_5 hown hN.1 hB.1 1 rfl rfl 0 (by decide) (hts _ mX5_store_2) (fun _ h9 => h9) rfl dX5_store_12 ?_
        refine va_alen (v := 600) hx hb hN.1 hB.1 0 1 rfl rfl rfl dX5_store_15 ?_
        refine lv_icmp_ge (tgt := 48) hx hb dX5_store_16 (by decide) (fun c1388 => ?_) (fun c1388 => ?_)
        · have c1388 : 600 ≤ (((((κ w).2.2.1) + 1) + 1) + 1) := (nI_leI (a := 600) (b := (((((κ w).2.2.1) + 1) + 1) + 1)) (by omega) (by omega)).mp c1388
          exact absurd c1388 (by omega)
        · have c1388 : ¬ 600 ≤ (((((κ w).2.2.1) + 1) + 1) + 1) := fun h9 => c1388 ((nI_leI (a := 600) (b := (((((κ w).2.2.1) + 1) + 1) + 1)) (by omega) (by omega)).mpr h9)
          refine lv_aload_n hx hb dX5_store_19 rfl (lv_at hl 1 rfl) ?_
          refine va_get (D := D) (ci := 5) (v := .ref f1374_0) (C := RX5) (T := TX5) (N := 14) hx hb hts iX5_store_5 hown hN.1 hB.1 1 rfl rfl 0 (by decide) (hts _ mX5_store_2) (fun _ h9 => h9) rfl dX5_store_20 ?_
          refine lv_aload_n hx hb dX5_store_23 rfl (lv_at hl 1 rfl) ?_
          refine va_get (D := D) (ci := 5) (v := .int (nI (((((κ w).2.2.1) + 1) + 1) + 1))) (C := RX5) (T := TX5) (N := 14) hx hb hts iX5_store_5 hown hN.1 hB.1 1 rfl rfl 1 (by decide) (hts _ mX5_store_1) (fun _ h9 => h9) rfl dX5_store_24 ?_
          refine lv_iload_n hx hb dX5_store_27 rfl (lv_at hl 2 rfl) ?_
          refine lv_iload_n hx hb dX5_store_28 rfl (lv_at hl 0 rfl) ?_
          refine lv_ishr hx hb dX5_store_29 ?_
          refine gn_i (fun x1389 => ?_)
          refine lv_i2b hx hb dX5_store_30 rfl ?_
          refine gn_i (fun x1390 => ?_)
          refine b_b hx hb hN hB 0 rfl (vp_in_nI (n := (((((κ w).2.2.1) + 1) + 1) + 1)) (N := 600) (by omega) (by omega)) (.inr ⟨rfl, List.mem_of_getElem? (i := 1) rfl⟩) dX5_store_31 (fun H locs hB => ?_)
          rw [(show ((nI (((((κ w).2.2.1) + 1) + 1) + 1)) : Int32).toNatClampNeg = (((((κ w).2.2.1) + 1) + 1) + 1) from nI_clamp (n := (((((κ w).2.2.1) + 1) + 1) + 1)) (by omega))] at hB
          have hB : Bx B0 D _ [(f1374_0, .inl (cs 1, 600, .inl (upd g1387 (((((κ w).2.2.1) + 1) + 1) + 1) (vp_nar .byte x1390)))), (w, .inr (5, [.ref f1374_0, .int (nI (((((κ w).2.2.1) + 1) + 1) + 1)), .int (nI f1374_2), .int (nI f1374_3), .int f1374_4, .int (nI f1374_5), .int f1374_6, .int f1374_7, .int f1374_8, .ref f1374_9, .int (nI f1374_10), f1374_11, .int f1374_12, .int f1374_13]))] [w, f1374_0] _ _ := hB
          generalize (upd g1387 (((((κ w).2.2.1) + 1) + 1) + 1) (vp_nar .byte x1390)) = g1391 at hB
          refine lv_aload_n hx hb dX5_store_32 rfl (lv_at hl 1 rfl) ?_
          refine lv_dup hx hb dX5_store_33 rfl ?_
          refine va_get (D := D) (ci := 5) (v := .int (nI (((((κ w).2.2.1) + 1) + 1) + 1))) (C := RX5) (T := TX5) (N := 14) hx hb hts iX5_store_5 hown hN.1 hB.1 1 rfl rfl 1 (by decide) (hts _ mX5_store_1) (fun _ h9 => h9) rfl dX5_store_34 ?_
          refine lv_iconst (v := 1) hx hb dX5_store_37 (by decide) ?_
          refine lv_iadd hx hb dX5_store_38 ?_
          refine tp_i (nI ((((((κ w).2.2.1) + 1) + 1) + 1) + 1)) (nI_add (((((κ w).2.2.1) + 1) + 1) + 1) 1) ?_
          refine b_put (D := D) (ci := 5) (v := .int (nI ((((((κ w).2.2.1) + 1) + 1) + 1) + 1))) (ty := .int) (C := RX5) (T := TX5) (N := 14) hx hb hts iX5_store_5 tyX5 tyX5_ok nmX5 hown hN hB 1 rfl rfl 1 (by decide) (hts _ mX5_store_1) (fun _ h9 => h9) rfl (by decide +kernel) rfl rfl (Nat.le_of_ble_eq_true rfl) (.inr ⟨rfl, List.mem_of_getElem? (i := 0) rfl⟩) dX5_store_39 (fun H locs hB => ?_)
          have hB : Bx B0 D _ [(f1374_0, .inl (cs 1, 600, .inl g1391)), (w, .inr (5, [.ref f1374_0, .int (nI ((((((κ w).2.2.1) + 1) + 1) + 1) + 1)), .int (nI f1374_2), .int (nI f1374_3), .int f1374_4, .int (nI f1374_5), .int f1374_6, .int f1374_7, .int f1374_8, .ref f1374_9, .int (nI f1374_10), f1374_11, .int f1374_12, .int f1374_13]))] [w, f1374_0] _ _ := hB
          refine lv_iinc (v := (-8)) (lv' := [(2, .int (-8)), (0, .ref w), (1, .int x)]) hx hb dX5_store_42 hl (k := 0) rfl (by decide) (by decide) rfl (fun ls hl => ?_)
          refine lv_goto (tgt := 3) hx hb dX5_store_45 (by decide) ?_
          refine lv_iload_n hx hb dX5_store_3 rfl (lv_at hl 0 rfl) ?_
          refine lv_if_lt (tgt := 48) hx hb dX5_store_4 (by decide) (fun _ => ?_) (fun c9 => absurd (by decide) c9)
          have hF : Fr B0 [10] κ H0 _ := hF.close hB (fa_c (by simp [hw.2]) (fa_c (by simp [t1374_0.2]) fa_n))
          have hT : WT B0 D cs T (kp κ w ((κ w).2.2.1 + 4) (κ w).2.2.2) _ := hT.closeK w ((κ w).2.2.1 + 4) (κ w).2.2.2 hB (by rw [hw.1]; decide) (by rw [hw.1]; decide) (List.mem_of_getElem? (i := 0) rfl) ⟨⟨1, _, rfl, kp_ok (ok_6 (k := ((κ w).1, (κ w).2.1, _, _)) hw.1 ⟨_, _, _, _, _, _, _, _, _, _, _, _, _, rfl, (by show ((κ w).2.2.1 + 4) ≤ 600; omega), (by omega), (by omega), (by omega), (by omega), (t2kp t1374_0), (t2kp t1374_9), (kp_su c1374_11), c1374_p2⟩)⟩, ⟨⟨0, _, rfl, kp_oth (ne_c t1374_0.1 hw.1 (by decide)) (by rw [hw.1]; decide) (by rw [hw.1]; decide) (ok_16 t1374_0.1 ⟨_, rfl⟩)⟩, trivial⟩⟩
          have hL : OkL B0 _ := hB.2.2.2.2.2
          exact en_v hx hb hr hlocks hL (Nat.zero_le _) (Nat.zero_le _) dX5_store_48 (⟨hT, hF⟩)
theorem mX5_fail_1 : (.fieldLink RX5 186 "OneBeat$Reader" "errorCode" "I" : Cond) ∈ wsX5_fail := List.mem_of_getElem? (i := 1) (by decide +kernel)
theorem iX5_fail_5 : ∀ w ∈ wsX50, w ∈ wsX5_fail := fun w h => List.mem_of_mem_drop (List.mem_of_mem_take ((show wsX50 = (wsX5_fail.drop 3).take 14 by decide +kernel) ▸ h))
theorem mX5_fail_2 : (.fieldLink RX5 41 "OneBeat$Reader" "errorStart" "I" : Cond) ∈ wsX5_fail := List.mem_of_getElem? (i := 2) (by decide +kernel)
set_option maxHeartbeats 4000000 in
set_option maxRecDepth 100000 in
theorem c_X5_fail {l : Launch} {D : va_G} {cs : Nat → ClassId} {B0 T : Nat} {κ : KM} {H0 : Heap} (hT : WT B0 D cs T κ H0) {w : Nat} (hw : T2 κ w 6 10) {x : Int32} {y : Int32} : KC l yX5_fail wsX5_fail 0 0 0 0 D cs B0 H0 [.ref w, .int x, .int y] (Qi (fun r H => WT B0 D cs T κ H ∧ Fr B0 [10] κ H0 H ∧ (r = 0))) := by
  refine KC.of cX5_fail 3 (some .boolean) (by decide) rfl (Nat.le_of_ble_eq_true rfl) ?_
  intro p e s m below meth c ls hx hb hr hml hown hts hlocks hin hN hE hH0 hl
  have hown : s.vm.findClass RX5 = some m.cls := hown
  have hl : lv_has ls 3 [(0, .ref w), (1, .int x), (2, .int y)] := hl
  have hL : OkL B0 [] := OkL.nil
  have hF : Fr B0 [10] κ H0 H0 := Fr.rf
  refine lv_aload_n hx hb dX5_fail_0 rfl (lv_at hl 0 rfl) ?_
  refine lv_iload_n hx hb dX5_fail_1 rfl (lv_at hl 1 rfl) ?_
  obtain ⟨hb1392, e1392, hat1392, hk1392⟩ := hT.o6 hw.1
  obtain ⟨f1392_0, f1392_2, f1392_3, f1392_4, f1392_5, f1392_6, f1392_7, f1392_8, f1392_9, f1392_10, f1392_11, f1392_12, f1392_13, rfl, c1392_1, c1392_2, c1392_3, c1392_5, c1392_10, t1392_0, t1392_9, c1392_11, c1392_p2⟩ := hk1392
  have hP : va_P D vwCl [(w, .inr (5, [.ref f1392_0, .int (nI ((κ w).2.2.1)), .int (nI f1392_2), .int (nI f1392_3), .int f1392_4, .int (nI f1392_5), .int f1392_6, .int f1392_7, .int f1392_8, .ref f1392_9, .int (nI f1392_10), f1392_11, .int f1392_12, .int f1392_13]))] _ := va_P.cons hat1392 va_P.nil
  have hB : Bx B0 D _ [(w, .inr (5, [.ref f1392_0, .int (nI ((κ w).2.2.1)), .int (nI f1392_2), .int (nI f1392_3), .int f1392_4, .int (nI f1392_5), .int f1392_6, .int f1392_7, .int f1392_8, .ref f1392_9, .int (nI f1392_10), f1392_11, .int f1392_12, .int f1392_13]))] [] _ _ := Bx.of (fun a => (κ a).1) hL hP (fa_c hb1392 fa_n) (by simp only [List.map_cons, List.map_nil, hw.1]; decide)
  refine b_put (D := D) (ci := 5) (v := .int x) (ty := .int) (C := RX5) (T := TX5) (N := 14) hx hb hts iX5_fail_5 tyX5 tyX5_ok nmX5 hown hN hB 0 rfl rfl 12 (by decide) (hts _ mX5_fail_1) (fun _ h9 => h9) rfl (by decide +kernel) rfl rfl (Nat.le_of_ble_eq_true rfl) (.inl rfl) dX5_fail_2 (fun H locs hB => ?_)
  have hB : Bx B0 D _ [(w, .inr (5, [.ref f1392_0, .int (nI ((κ w).2.2.1)), .int (nI f1392_2), .int (nI f1392_3), .int f1392_4, .int (nI f1392_5), .int f1392_6, .int f1392_7, .int f1392_8, .ref f1392_9, .int (nI f1392_10), f1392_11, .int x, .int f1392_13]))] [w] _ _ := hB
  refine lv_aload_n hx hb dX5_fail_5 rfl (lv_at hl 0 rfl) ?_
  refine lv_iload_n hx hb dX5_fail_6 rfl (lv_at hl 2 rfl) ?_
  refine b_put (D := D) (ci := 5) (v := .int y) (ty := .int) (C := RX5) (T := TX5) (N := 14) hx hb hts iX5_fail_5 tyX5 tyX5_ok nmX5 hown hN hB 0 rfl rfl 13 (by decide) (hts _ mX5_fail_2) (fun _ h9 => h9) rfl (by decide +kernel) rfl rfl (Nat.le_of_ble_eq_true rfl) (.inr ⟨rfl, List.mem_of_getElem? (i := 0) rfl⟩) dX5_fail_7 (fun H locs hB => ?_)
  have hB : Bx B0 D _ [(w, .inr (5, [.ref f1392_0, .int (nI ((κ w).2.2.1)), .int (nI f1392_2), .int (nI f1392_3), .int f1392_4, .int (nI f1392_5), .int f1392_6, .int f1392_7, .int f1392_8, .ref f1392_9, .int (nI f1392_10), f1392_11, .int x, .int y]))] [w] _ _ := hB
  refine lv_iconst (v := 0) hx hb dX5_fail_10 (by decide) ?_
  have hT : WT B0 D cs T κ _ := hT.close hB ⟨⟨0, _, rfl, ok_6 hw.1 ⟨_, _, _, _, _, _, _, _, _, _, _, _, _, rfl, (by omega), (by omega), (by omega), (by omega), (by omega), t1392_0, t1392_9, c1392_11, c1392_p2⟩⟩, trivial⟩
  have hF : Fr B0 [10] κ H0 _ := hF.close hB (fa_c (by simp [hw.2]) fa_n)
  have hL : OkL B0 _ := hB.2.2.2.2.2
  have hP : va_P D vwCl [(w, .inr (5, [.ref f1392_0, .int (nI ((κ w).2.2.1)), .int (nI f1392_2), .int (nI f1392_3), .int f1392_4, .int (nI f1392_5), .int f1392_6, .int f1392_7, .int f1392_8, .ref f1392_9, .int (nI f1392_10), f1392_11, .int x, .int y]))] _ := hB.1
  exact en_i hx hb hr hlocks hL rfl (Nat.zero_le _) (Nat.zero_le _) dX5_fail_11 (⟨hT, hF, rfl⟩)
theorem mX5_isMark_1 : (.fieldLink RX5 73 "OneBeat$Reader" "kind" "I" : Cond) ∈ wsX5_isMark := List.mem_of_getElem? (i := 1) (by decide +kernel)
theorem iX5_isMark_5 : ∀ w ∈ wsX50, w ∈ wsX5_isMark := fun w h => List.mem_of_mem_drop (List.mem_of_mem_take ((show wsX50 = (wsX5_isMark.drop 3).take 14 by decide +kernel) ▸ h))
theorem mX5_isMark_2 : (.fieldLink RX5 175 "OneBeat$Reader" "value" "I" : Cond) ∈ wsX5_isMark := List.mem_of_getElem? (i := 2) (by decide +kernel)
set_option maxHeartbeats 4000000 in
set_option maxRecDepth 100000 in
theorem c_X5_isMark {l : Launch} {D : va_G} {cs : Nat → ClassId} {B0 T : Nat} {κ : KM} {H0 : Heap} (hT : WT B0 D cs T κ H0) {w : Nat} (hw : T2 κ w 6 10) {x : Int32} : KC l yX5_isMark wsX5_isMark 0 0 0 0 D cs B0 H0 [.ref w, .int x] (Qi (fun r H => H = H0 ∧ (r = 0 ∨ r = 1))) := by
  refine KC.of cX5_isMark 2 (some .boolean) (by decide) rfl (Nat.le_of_ble_eq_true rfl) ?_
  intro p e s m below meth c ls hx hb hr hml hown hts hlocks hin hN hE hH0 hl
  have hown : s.vm.findClass RX5 = some m.cls := hown
  have hl : lv_has ls 2 [(0, .ref w), (1, .int x)] := hl
  have hL : OkL B0 [] := OkL.nil
  refine lv_aload_n hx hb dX5_isMark_0 rfl (lv_at hl 0 rfl) ?_
  obtain ⟨hb1393, e1393, hat1393, hk1393⟩ := hT.o6 hw.1
  obtain ⟨f1393_0, f1393_2, f1393_3, f1393_4, f1393_5, f1393_6, f1393_7, f1393_8, f1393_9, f1393_10, f1393_11, f1393_12, f1393_13, rfl, c1393_1, c1393_2, c1393_3, c1393_5, c1393_10, t1393_0, t1393_9, c1393_11, c1393_p2⟩ := hk1393
  have hP : va_P D vwCl [(w, .inr (5, [.ref f1393_0, .int (nI ((κ w).2.2.1)), .int (nI f1393_2), .int (nI f1393_3), .int f1393_4, .int (nI f1393_5), .int f1393_6, .int f1393_7, .int f1393_8, .ref f1393_9, .int (nI f1393_10), f1393_11, .int f1393_12, .int f1393_13]))] _ := va_P.cons hat1393 va_P.nil
  refine va_get (D := D) (ci := 5) (v := .int f1393_4) (C := RX5) (T := TX5) (N := 14) hx hb hts iX5_isMark_5 hown hN.1 hP 0 rfl rfl 4 (by decide) (hts _ mX5_isMark_1) (fun _ h9 => h9) rfl dX5_isMark_1 ?_
  refine lv_iconst (v := 3) hx hb dX5_isMark_4 (by decide) ?_
  refine lv_icmp_ne (tgt := 20) hx hb dX5_isMark_5 (by decide) (fun c1394 => ?_) (fun c1394 => ?_)
  · refine lv_iconst (v := 0) hx hb dX5_isMark_20 (by decide) ?_
    exact en_i hx hb hr hlocks hL rfl (Nat.zero_le _) (Nat.zero_le _) dX5_isMark_21 (⟨rfl, Or.inl rfl⟩)
  · refine lv_aload_n hx hb dX5_isMark_8 rfl (lv_at hl 0 rfl) ?_
    refine va_get (D := D) (ci := 5) (v := .int f1393_6) (C := RX5) (T := TX5) (N := 14) hx hb hts iX5_isMark_5 hown hN.1 hP 0 rfl rfl 6 (by decide) (hts _ mX5_isMark_2) (fun _ h9 => h9) rfl dX5_isMark_9 ?_
    refine lv_iload_n hx hb dX5_isMark_12 rfl (lv_at hl 1 rfl) ?_
    refine lv_icmp_ne (tgt := 20) hx hb dX5_isMark_13 (by decide) (fun c1395 => ?_) (fun c1395 => ?_)
    · refine lv_iconst (v := 0) hx hb dX5_isMark_20 (by decide) ?_
      exact en_i hx hb hr hlocks hL rfl (Nat.zero_le _) (Nat.zero_le _) dX5_isMark_21 (⟨rfl, Or.inl rfl⟩)
    · refine lv_iconst (v := 1) hx hb dX5_isMark_16 (by decide) ?_
      refine lv_goto (tgt := 21) hx hb dX5_isMark_17 (by decide) ?_
      exact en_i hx hb hr hlocks hL rfl (Nat.zero_le _) (Nat.zero_le _) dX5_isMark_21 (⟨rfl, Or.inr rfl⟩)
theorem mX5_isWord_1 : (.fieldLink RX5 73 "OneBeat$Reader" "kind" "I" : Cond) ∈ wsX5_isWord := List.mem_of_getElem? (i := 1) (by decide +kernel)
theorem iX5_isWord_5 : ∀ w ∈ wsX50, w ∈ wsX5_isWord := fun w h => List.mem_of_mem_drop (List.mem_of_mem_take ((show wsX50 = (wsX5_isWord.drop 54).take 14 by decide +kernel) ▸ h))
theorem mX5_isWord_2 : (.fieldLink RX5 35 "OneBeat$Reader" "position" "I" : Cond) ∈ wsX5_isWord := List.mem_of_getElem? (i := 2) (by decide +kernel)
theorem mX5_isWord_3 : (.fieldLink RX5 124 "OneBeat$Reader" "start" "I" : Cond) ∈ wsX5_isWord := List.mem_of_getElem? (i := 3) (by decide +kernel)
theorem hdJ0_length_8abf5_v : yJ0_length_8abf5.cls = RJ0 ∧ yJ0_length_8abf5.cls ≠ "java/lang/invoke/MethodHandle" ∧ yJ0_length_8abf5.cls ≠ "java/lang/invoke/VarHandle" ∧ (parseMethodDescriptor yJ0_length_8abf5.desc).map (fun d => d.parameters.length) = some 0 := by decide +kernel
theorem mX5_isWord_4 : (.fieldLink RX5 11 "OneBeat$Reader" "text" "[B" : Cond) ∈ wsX5_isWord := List.mem_of_getElem? (i := 4) (by decide +kernel)
theorem hdJ0_charAt_5068e_v : yJ0_charAt_5068e.cls = RJ0 ∧ yJ0_charAt_5068e.cls ≠ "java/lang/invoke/MethodHandle" ∧ yJ0_charAt_5068e.cls ≠ "java/lang/invoke/VarHandle" ∧ (parseMethodDescriptor yJ0_charAt_5068e.desc).map (fun d => d.parameters.length) = some 1 := by decide +kernel
set_option maxHeartbeats 4000000 in
set_option maxRecDepth 100000 in
theorem c_X5_isWord {l : Launch} {D : va_G} {cs : Nat → ClassId} {B0 T : Nat} {κ : KM} {H0 : Heap} (hT : WT B0 D cs T κ H0) {w : Nat} (hw : T2 κ w 6 10) {i : Nat} (hi9 : i ∈ nW) : KC l yX5_isWord wsX5_isWord 4 85 0 0 D cs B0 H0 [.ref w, .ref (cs (100 + i))] (Qi (fun r H => H = H0 ∧ (r = 0 ∨ r = 1))) := by
  refine KC.of cX5_isWord 3 (some .boolean) (by decide) rfl (Nat.le_of_ble_eq_true rfl) ?_
  intro p e s m below meth c ls hx hb hr hml hown hts hlocks hin hN hE hH0 hl
  have hown : s.vm.findClass RX5 = some m.cls := hown
  have hl : lv_has ls 3 [(0, .ref w), (1, .ref (cs (100 + i)))] := hl
  have hL : OkL B0 [] := OkL.nil
  refine lv_aload_n hx hb dX5_isWord_0 rfl (lv_at hl 0 rfl) ?_
  obtain ⟨hb1396, e1396, hat1396, hk1396⟩ := hT.o6 hw.1
  obtain ⟨f1396_0, f1396_2, f1396_3, f1396_4, f1396_5, f1396_6, f1396_7, f1396_8, f1396_9, f1396_10, f1396_11, f1396_12, f1396_13, rfl, c1396_1, c1396_2, c1396_3, c1396_5, c1396_10, t1396_0, t1396_9, c1396_11, c1396_p2⟩ := hk1396
  have hP : va_P D vwCl [(w, .inr (5, [.ref f1396_0, .int (nI ((κ w).2.2.1)), .int (nI f1396_2), .int (nI f1396_3), .int f1396_4, .int (nI f1396_5), .int f1396_6, .int f1396_7, .int f1396_8, .ref f1396_9, .int (nI f1396_10), f1396_11, .int f1396_12, .int f1396_13]))] _ := va_P.cons hat1396 va_P.nil
  refine va_get (D := D) (ci := 5) (v := .int f1396_4) (C := RX5) (T := TX5) (N := 14) hx hb hts iX5_isWord_5 hown hN.1 hP 0 rfl rfl 4 (by decide) (hts _ mX5_isWord_1) (fun _ h9 => h9) rfl dX5_isWord_1 ?_
  refine lv_iconst (v := 2) hx hb dX5_isWord_4 (by decide) ?_
  refine lv_icmp_ne (tgt := 36) hx hb dX5_isWord_5 (by decide) (fun c1397 => ?_) (fun c1397 => ?_)
  · refine lv_iconst (v := 0) hx hb dX5_isWord_36 (by decide) ?_
    exact en_i hx hb hr hlocks hL rfl (Nat.zero_le _) (Nat.zero_le _) dX5_isWord_37 (⟨rfl, Or.inl rfl⟩)
  · refine lv_aload_n hx hb dX5_isWord_8 rfl (lv_at hl 0 rfl) ?_
    refine va_get (D := D) (ci := 5) (v := .int (nI f1396_3)) (C := RX5) (T := TX5) (N := 14) hx hb hts iX5_isWord_5 hown hN.1 hP 0 rfl rfl 3 (by decide) (hts _ mX5_isWord_2) (fun _ h9 => h9) rfl dX5_isWord_9 ?_
    refine lv_aload_n hx hb dX5_isWord_12 rfl (lv_at hl 0 rfl) ?_
    refine va_get (D := D) (ci := 5) (v := .int (nI f1396_5)) (C := RX5) (T := TX5) (N := 14) hx hb hts iX5_isWord_5 hown hN.1 hP 0 rfl rfl 5 (by decide) (hts _ mX5_isWord_3) (fun _ h9 => h9) rfl dX5_isWord_13 ?_
    refine lv_isub hx hb dX5_isWord_16 ?_
    refine gn_i (fun x1398 => ?_)
    refine lv_aload_n hx hb dX5_isWord_17 rfl (lv_at hl 1 rfl) ?_
    refine W.old hL (fun hold => ?_)
    refine cv_i (As := []) (rest := [.int x1398]) (b := (cs (100 + i))) ⟨hx, hb, hml, hown, hts⟩ (c_J0_length_8abf5 hT (i := i) hi9) (cwV 0 hts gX5_isWord_J0_length_8abf5 rfl rfl rfl hdJ0_length_8abf5_v ⟨Nat.le_of_ble_eq_true rfl, Nat.le_of_ble_eq_true rfl⟩) hN hE hL (sx_rec (hE.2.1 _ hi9) hold) rfl rfl hl.1 (Nat.le_of_ble_eq_true rfl) dX5_isWord_18 (Nat.zero_le _) (Nat.zero_le _) (fun r1399 H1 locs hL hqr1399 => ?_)
    obtain ⟨h9, hqr1399⟩ := hqr1399; replace h9 := h9.symm; subst h9
    obtain rfl := hqr1399
    have hn9 := nT_le _ hi9
    refine lv_icmp_ne (tgt := 36) hx hb dX5_isWord_21 (by decide) (fun c1400 => ?_) (fun c1400 => ?_)
    · refine lv_iconst (v := 0) hx hb dX5_isWord_36 (by decide) ?_
      exact en_i hx hb hr hlocks hL rfl (Nat.zero_le _) (Nat.zero_le _) dX5_isWord_37 (⟨rfl, Or.inl rfl⟩)
    · refine lv_aload_n hx hb dX5_isWord_24 rfl (lv_at hl 0 rfl) ?_
      refine va_get (D := D) (ci := 5) (v := .int (nI f1396_3)) (C := RX5) (T := TX5) (N := 14) hx hb hts iX5_isWord_5 hown hN.1 hP 0 rfl rfl 3 (by decide) (hts _ mX5_isWord_2) (fun _ h9 => h9) rfl dX5_isWord_25 ?_
      refine lv_aload_n hx hb dX5_isWord_28 rfl (lv_at hl 0 rfl) ?_
      refine va_get (D := D) (ci := 5) (v := .ref f1396_0) (C := RX5) (T := TX5) (N := 14) hx hb hts iX5_isWord_5 hown hN.1 hP 0 rfl rfl 0 (by decide) (hts _ mX5_isWord_4) (fun _ h9 => h9) rfl dX5_isWord_29 ?_
      obtain ⟨hb1401, e1401, hat1401, hk1401⟩ := hT.o16 t1396_0.1
      obtain ⟨g1401, rfl⟩ := hk1401
      have hP : va_P D vwCl [(f1396_0, .inl (cs 1, 600, .inl g1401)), (w, .inr (5, [.ref f1396_0, .int (nI ((κ w).2.2.1)), .int (nI f1396_2), .int (nI f1396_3), .int f1396_4, .int (nI f1396_5), .int f1396_6, .int f1396_7, .int f1396_8, .ref f1396_9, .int (nI f1396_10), f1396_11, .int f1396_12, .int f1396_13]))] _ := va_P.cons hat1401 hP
      refine va_alen (v := 600) hx hb hN.1 hP 0 1 rfl rfl rfl dX5_isWord_32 ?_
      refine lv_icmp_le (tgt := 38) hx hb dX5_isWord_33 (by decide) (fun c1402 => ?_) (fun c1402 => ?_)
      · have c1402 : f1396_3 ≤ 600 := (nI_leI (a := f1396_3) (b := 600) (by omega) (by omega)).mp c1402
        refine lv_iconst (v := 0) hx hb dX5_isWord_38 (by decide) ?_
        refine lv_istore_n (lv' := [(2, .int 0), (0, .ref w), (1, .ref (cs (100 + i)))]) hx hb dX5_isWord_39 rfl hl (by decide) rfl (fun ls hl => ?_)
        refine lp_r (B0 := B0) (α := Nat) (nL := 3) (fun a9 => 8 - a9) (fun a9 => (a9 ≤ 8)) (fun a9 => [(2, .int (nI a9)), (0, .ref w), (1, .ref (cs (100 + i)))]) ?_ 0 _ _ (by show (0) ≤ 8; omega) hL (lv_sub hl [0, 1, 2] rfl)
        rintro k locs ls ih1403 hk hL hl
        have hl : lv_has ls 3 [(2, .int (nI k)), (0, .ref w), (1, .ref (cs (100 + i)))] := hl
        have hk : k ≤ 8 := hk
        refine lv_iload_n hx hb dX5_isWord_40 rfl (lv_at hl 0 rfl) ?_
        refine lv_aload_n hx hb dX5_isWord_41 rfl (lv_at hl 2 rfl) ?_
        refine W.old hL (fun hold => ?_)
        refine cv_i (As := []) (rest := [.int (nI k)]) (b := (cs (100 + i))) ⟨hx, hb, hml, hown, hts⟩ (c_J0_length_8abf5 hT (i := i) hi9) (cwV 0 hts gX5_isWord_J0_length_8abf5 rfl rfl rfl hdJ0_length_8abf5_v ⟨Nat.le_of_ble_eq_true rfl, Nat.le_of_ble_eq_true rfl⟩) hN hE hL (sx_rec (hE.2.1 _ hi9) hold) rfl rfl hl.1 (Nat.le_of_ble_eq_true rfl) dX5_isWord_42 (Nat.zero_le _) (Nat.zero_le _) (fun r1404 H1 locs hL hqr1404 => ?_)
        obtain ⟨h9, hqr1404⟩ := hqr1404; replace h9 := h9.symm; subst h9
        obtain rfl := hqr1404
        have hn9 := nT_le _ hi9
        refine lv_icmp_ge (tgt := 88) hx hb dX5_isWord_45 (by decide) (fun c1405 => ?_) (fun c1405 => ?_)
        · have c1405 : (nT i) ≤ k := (nI_leI (a := (nT i)) (b := k) (by omega) (by omega)).mp c1405
          refine lv_iconst (v := 1) hx hb dX5_isWord_88 (by decide) ?_
          exact en_i hx hb hr hlocks hL rfl (Nat.zero_le _) (Nat.zero_le _) dX5_isWord_89 (⟨rfl, Or.inr rfl⟩)
        · have c1405 : ¬ (nT i) ≤ k := fun h9 => c1405 ((nI_leI (a := (nT i)) (b := k) (by omega) (by omega)).mpr h9)
          refine lv_aload_n hx hb dX5_isWord_48 rfl (lv_at hl 1 rfl) ?_
          refine va_get (D := D) (ci := 5) (v := .int (nI f1396_5)) (C := RX5) (T := TX5) (N := 14) hx hb hts iX5_isWord_5 hown hN.1 hP 1 rfl rfl 5 (by decide) (hts _ mX5_isWord_3) (fun _ h9 => h9) rfl dX5_isWord_49 ?_
          refine lv_iload_n hx hb dX5_isWord_52 rfl (lv_at hl 0 rfl) ?_
          refine lv_iadd hx hb dX5_isWord_53 ?_
          refine tp_i (nI (f1396_5 + k)) (nI_add f1396_5 k) ?_
          refine lv_aload_n hx hb dX5_isWord_54 rfl (lv_at hl 1 rfl) ?_
          refine va_get (D := D) (ci := 5) (v := .int (nI f1396_3)) (C := RX5) (T := TX5) (N := 14) hx hb hts iX5_isWord_5 hown hN.1 hP 1 rfl rfl 3 (by decide) (hts _ mX5_isWord_2) (fun _ h9 => h9) rfl dX5_isWord_55 ?_
          refine lv_icmp_ge (tgt := 88) hx hb dX5_isWord_58 (by decide) (fun c1406 => ?_) (fun c1406 => ?_)
          · have c1406 : f1396_3 ≤ (f1396_5 + k) := (nI_leI (a := f1396_3) (b := (f1396_5 + k)) (by omega) (by omega)).mp c1406
            refine lv_iconst (v := 1) hx hb dX5_isWord_88 (by decide) ?_
            exact en_i hx hb hr hlocks hL rfl (Nat.zero_le _) (Nat.zero_le _) dX5_isWord_89 (⟨rfl, Or.inr rfl⟩)
          · have c1406 : ¬ f1396_3 ≤ (f1396_5 + k) := fun h9 => c1406 ((nI_leI (a := f1396_3) (b := (f1396_5 + k)) (by omega) (by omega)).mpr h9)
            refine lv_aload_n hx hb dX5_isWord_61 rfl (lv_at hl 1 rfl) ?_
            refine va_get (D := D) (ci := 5) (v := .ref f1396_0) (C := RX5) (T := TX5) (N := 14) hx hb hts iX5_isWord_5 hown hN.1 hP 1 rfl rfl 0 (by decide) (hts _ mX5_isWord_4) (fun _ h9 => h9) rfl dX5_isWord_62 ?_
            refine lv_aload_n hx hb dX5_isWord_65 rfl (lv_at hl 1 rfl) ?_
            refine va_get (D := D) (ci := 5) (v := .int (nI f1396_5)) (C := RX5) (T := TX5) (N := 14) hx hb hts iX5_isWord_5 hown hN.1 hP 1 rfl rfl 5 (by decide) (hts _ mX5_isWord_3) (fun _ h9 => h9) rfl dX5_isWord_66 ?_
            refine lv_iload_n hx hb dX5_isWord_69 rfl (lv_at hl 0 rfl) ?_
            refine lv_iadd hx hb dX5_isWord_70 ?_
            refine tp_i (nI (f1396_5 + k)) (nI_add f1396_5 k) ?_
            refine ld_b (v := (g1401 (f1396_5 + k))) hx hb hN hP 0 rfl (vp_in_nI (n := (f1396_5 + k)) (N := 600) (by omega) (by omega)) (by rw [(show ((nI (f1396_5 + k)) : Int32).toNatClampNeg = (f1396_5 + k) from nI_clamp (n := (f1396_5 + k)) (by omega))]) dX5_isWord_71 ?_
            refine gn_i (fun x1407 => ?_)
            refine lv_aload_n hx hb dX5_isWord_72 rfl (lv_at hl 2 rfl) ?_
            refine lv_iload_n hx hb dX5_isWord_73 rfl (lv_at hl 0 rfl) ?_
            refine W.old hL (fun hold => ?_)
            refine cv_i (As := [.int (nI k)]) (rest := [.int x1407]) (b := (cs (100 + i))) ⟨hx, hb, hml, hown, hts⟩ (c_J0_charAt_5068e hT (i := i) hi9 (k := k) (by first | omega | decide | assumption)) (cwV 1 hts gX5_isWord_J0_charAt_5068e rfl rfl rfl hdJ0_charAt_5068e_v ⟨Nat.le_of_ble_eq_true rfl, Nat.le_of_ble_eq_true rfl⟩) hN hE hL (sx_rec (hE.2.1 _ hi9) hold) rfl rfl hl.1 (Nat.le_of_ble_eq_true rfl) dX5_isWord_74 (Nat.zero_le _) (Nat.zero_le _) (fun r1408 H1 locs hL hqr1408 => ?_)
            obtain ⟨h9, hqr1408⟩ := hqr1408; replace h9 := h9.symm; subst h9
            obtain ⟨n1409, h1410, rfl⟩ := hqr1408
            refine lv_icmp_eq (tgt := 82) hx hb dX5_isWord_77 (by decide) (fun c1411 => ?_) (fun c1411 => ?_)
            · refine lv_iinc (v := (nI (k + 1))) (lv' := [(2, .int (nI (k + 1))), (0, .ref w), (1, .ref (cs (100 + i)))]) hx hb dX5_isWord_82 hl (k := 0) rfl (nI_add _ 1) (by decide) rfl (fun ls hl => ?_)
              refine lv_goto (tgt := 40) hx hb dX5_isWord_85 (by decide) ?_
              exact ih1403 (k + 1) _ _ (by show 8 - ((k + 1)) < 8 - k; omega) (by show ((k + 1)) ≤ 8; omega) hL (lv_sub hl [0, 1, 2] rfl)
            · refine lv_iconst (v := 0) hx hb dX5_isWord_80 (by decide) ?_
              exact en_i hx hb hr hlocks hL rfl (Nat.zero_le _) (Nat.zero_le _) dX5_isWord_81 (⟨rfl, Or.inl rfl⟩)
      · have c1402 : ¬ f1396_3 ≤ 600 := fun h9 => c1402 ((nI_leI (a := f1396_3) (b := 600) (by omega) (by omega)).mpr h9)
        refine lv_iconst (v := 0) hx hb dX5_isWord_36 (by decide) ?_
        exact en_i hx hb hr hlocks hL rfl (Nat.zero_le _) (Nat.zero_le _) dX5_isWord_37 (⟨rfl, Or.inl rfl⟩)
theorem mX5_step_1 : (.fieldLink RX5 35 "OneBeat$Reader" "position" "I" : Cond) ∈ wsX5_step := List.mem_of_getElem? (i := 1) (by decide +kernel)
theorem iX5_step_5 : ∀ w ∈ wsX50, w ∈ wsX5_step := fun w h => List.mem_of_mem_drop (List.mem_of_mem_take ((show wsX50 = (wsX5_step.drop 8).take 14 by decide +kernel) ▸ h))
theorem mX5_step_2 : (.fieldLink RX5 32 "OneBeat$Reader" "length" "I" : Cond) ∈ wsX5_step := List.mem_of_getElem? (i := 2) (by decide +kernel)
theorem mX5_step_4 : (.fieldLink RX5 124 "OneBeat$Reader" "start" "I" : Cond) ∈ wsX5_step := List.mem_of_getElem? (i := 4) (by decide +kernel)
theorem mX5_step_5 : (.fieldLink RX5 175 "OneBeat$Reader" "value" "I" : Cond) ∈ wsX5_step := List.mem_of_getElem? (i := 5) (by decide +kernel)
theorem mX5_step_3 : (.fieldLink RX5 11 "OneBeat$Reader" "text" "[B" : Cond) ∈ wsX5_step := List.mem_of_getElem? (i := 3) (by decide +kernel)
theorem mX5_step_6 : (.fieldLink RX5 73 "OneBeat$Reader" "kind" "I" : Cond) ∈ wsX5_step := List.mem_of_getElem? (i := 6) (by decide +kernel)
theorem mX5_step_7 : (.constant RX5 189 (1000000) : Cond) ∈ wsX5_step := List.mem_of_getElem? (i := 7) (by decide +kernel)
set_option maxHeartbeats 4000000 in
set_option maxRecDepth 100000 in
theorem c_X5_step {l : Launch} {D : va_G} {cs : Nat → ClassId} {B0 T : Nat} {κ : KM} {H0 : Heap} (hT : WT B0 D cs T κ H0) {w : Nat} (hw : T2 κ w 6 10) : KC l yX5_step wsX5_step 0 0 0 0 D cs B0 H0 [.ref w] (Qv (fun H => WT B0 D cs T κ H ∧ Fr B0 [10] κ H0 H ∧ ∀ v, FI D w 5 7 v H0 → FI D w 5 7 v H)) := by
  refine KC.of cX5_step 3 none (by decide) rfl (Nat.le_of_ble_eq_true rfl) ?_
  intro p e s m below meth c ls hx hb hr hml hown hts hlocks hin hN hE hH0 hl
  have hown : s.vm.findClass RX5 = some m.cls := hown
  have hl : lv_has ls 3 [(0, .ref w)] := hl
  have hL : OkL B0 [] := OkL.nil
  have hF : Fr B0 [10] κ H0 H0 := Fr.rf
  obtain ⟨hb1412, e1412, hat1412, hk1412⟩ := hT.o6 hw.1
  obtain ⟨f1412_0, f1412_2, f1412_3, f1412_4, f1412_5, f1412_6, f1412_7, f1412_8, f1412_9, f1412_10, f1412_11, f1412_12, f1412_13, rfl, c1412_1, c1412_2, c1412_3, c1412_5, c1412_10, t1412_0, t1412_9, c1412_11, c1412_p2⟩ := hk1412
  have hP : va_P D vwCl [(w, .inr (5, [.ref f1412_0, .int (nI ((κ w).2.2.1)), .int (nI f1412_2), .int (nI f1412_3), .int f1412_4, .int (nI f1412_5), .int f1412_6, .int f1412_7, .int f1412_8, .ref f1412_9, .int (nI f1412_10), f1412_11, .int f1412_12, .int f1412_13]))] _ := va_P.cons hat1412 va_P.nil
  obtain ⟨hb1413, e1413, hat1413, hk1413⟩ := hT.o16 t1412_0.1
  obtain ⟨g1413, rfl⟩ := hk1413
  have hP : va_P D vwCl [(f1412_0, .inl (cs 1, 600, .inl g1413)), (w, .inr (5, [.ref f1412_0, .int (nI ((κ w).2.2.1)), .int (nI f1412_2), .int (nI f1412_3), .int f1412_4, .int (nI f1412_5), .int f1412_6, .int f1412_7, .int f1412_8, .ref f1412_9, .int (nI f1412_10), f1412_11, .int f1412_12, .int f1412_13]))] _ := va_P.cons hat1413 hP
  have hB : Bx B0 D _ [(f1412_0, .inl (cs 1, 600, .inl g1413)), (w, .inr (5, [.ref f1412_0, .int (nI ((κ w).2.2.1)), .int (nI f1412_2), .int (nI f1412_3), .int f1412_4, .int (nI f1412_5), .int f1412_6, .int f1412_7, .int f1412_8, .ref f1412_9, .int (nI f1412_10), f1412_11, .int f1412_12, .int f1412_13]))] [] _ _ := Bx.of (fun a => (κ a).1) hL hP (fa_c hb1413 (fa_c hb1412 fa_n)) (by simp only [List.map_cons, List.map_nil, t1412_0.1, hw.1]; decide)
  have hB : Bx B0 D _ [(f1412_0, .inl (cs 1, 600, .inl g1413)), (w, .inr (5, [.ref f1412_0, .int (nI ((κ w).2.2.1)), .int (nI f1412_2), .int (nI f1412_3), .int f1412_4, .int (nI f1412_5), .int f1412_6, .int f1412_7, .int f1412_8, .ref f1412_9, .int (nI f1412_10), f1412_11, .int f1412_12, .int f1412_13]))] [w] _ _ := hB.ms (by simp) (fa_c hb1412 fa_n)
  refine lp_m (α := Nat) (nL := 3) (fun a9 => 600 - a9) (fun a9 H9 l9 => (a9 ≤ 600) ∧ (Bx B0 D H0 [(f1412_0, .inl (cs 1, 600, .inl g1413)), (w, .inr (5, [.ref f1412_0, .int (nI ((κ w).2.2.1)), .int (nI f1412_2), .int (nI a9), .int f1412_4, .int (nI f1412_5), .int f1412_6, .int f1412_7, .int f1412_8, .ref f1412_9, .int (nI f1412_10), f1412_11, .int f1412_12, .int f1412_13]))] [w] H9 l9)) (fun a9 => [(0, .ref w)]) ?_ f1412_3 _ _ _ ⟨(by show (f1412_3) ≤ 600; omega), hB⟩ (lv_sub hl [0] rfl)
  rintro k1 H locs ls ih1414 ⟨hk1, hB⟩ hl
  have hl : lv_has ls 3 [(0, .ref w)] := hl
  have hk1 : k1 ≤ 600 := hk1
  have hB : Bx B0 D _ [(f1412_0, .inl (cs 1, 600, .inl g1413)), (w, .inr (5, [.ref f1412_0, .int (nI ((κ w).2.2.1)), .int (nI f1412_2), .int (nI k1), .int f1412_4, .int (nI f1412_5), .int f1412_6, .int f1412_7, .int f1412_8, .ref f1412_9, .int (nI f1412_10), f1412_11, .int f1412_12, .int f1412_13]))] [w] _ _ := hB
  refine lv_aload_n hx hb dX5_step_0 rfl (lv_at hl 0 rfl) ?_
  refine va_get (D := D) (ci := 5) (v := .int (nI k1)) (C := RX5) (T := TX5) (N := 14) hx hb hts iX5_step_5 hown hN.1 hB.1 1 rfl rfl 3 (by decide) (hts _ mX5_step_1) (fun _ h9 => h9) rfl dX5_step_1 ?_
  refine lv_aload_n hx hb dX5_step_4 rfl (lv_at hl 0 rfl) ?_
  refine va_get (D := D) (ci := 5) (v := .int (nI f1412_2)) (C := RX5) (T := TX5) (N := 14) hx hb hts iX5_step_5 hown hN.1 hB.1 1 rfl rfl 2 (by decide) (hts _ mX5_step_2) (fun _ h9 => h9) rfl dX5_step_5 ?_
  refine lv_icmp_ge (tgt := 38) hx hb dX5_step_8 (by decide) (fun c1415 => ?_) (fun c1415 => ?_)
  · have c1415 : f1412_2 ≤ k1 := (nI_leI (a := f1412_2) (b := k1) (by omega) (by omega)).mp c1415
    refine lv_aload_n hx hb dX5_step_38 rfl (lv_at hl 0 rfl) ?_
    refine lv_aload_n hx hb dX5_step_39 rfl (lv_at hl 0 rfl) ?_
    refine va_get (D := D) (ci := 5) (v := .int (nI k1)) (C := RX5) (T := TX5) (N := 14) hx hb hts iX5_step_5 hown hN.1 hB.1 1 rfl rfl 3 (by decide) (hts _ mX5_step_1) (fun _ h9 => h9) rfl dX5_step_40 ?_
    refine b_put (D := D) (ci := 5) (v := .int (nI k1)) (ty := .int) (C := RX5) (T := TX5) (N := 14) hx hb hts iX5_step_5 tyX5 tyX5_ok nmX5 hown hN hB 1 rfl rfl 5 (by decide) (hts _ mX5_step_4) (fun _ h9 => h9) rfl (by decide +kernel) rfl rfl (Nat.le_of_ble_eq_true rfl) (.inr ⟨rfl, List.mem_of_getElem? (i := 0) rfl⟩) dX5_step_43 (fun H locs hB => ?_)
    have hB : Bx B0 D _ [(f1412_0, .inl (cs 1, 600, .inl g1413)), (w, .inr (5, [.ref f1412_0, .int (nI ((κ w).2.2.1)), .int (nI f1412_2), .int (nI k1), .int f1412_4, .int (nI k1), .int f1412_6, .int f1412_7, .int f1412_8, .ref f1412_9, .int (nI f1412_10), f1412_11, .int f1412_12, .int f1412_13]))] [w] _ _ := hB
    refine lv_aload_n hx hb dX5_step_46 rfl (lv_at hl 0 rfl) ?_
    refine lv_iconst (v := 0) hx hb dX5_step_47 (by decide) ?_
    refine b_put (D := D) (ci := 5) (v := .int 0) (ty := .int) (C := RX5) (T := TX5) (N := 14) hx hb hts iX5_step_5 tyX5 tyX5_ok nmX5 hown hN hB 1 rfl rfl 6 (by decide) (hts _ mX5_step_5) (fun _ h9 => h9) rfl (by decide +kernel) rfl rfl (Nat.le_of_ble_eq_true rfl) (.inr ⟨rfl, List.mem_of_getElem? (i := 0) rfl⟩) dX5_step_48 (fun H locs hB => ?_)
    have hB : Bx B0 D _ [(f1412_0, .inl (cs 1, 600, .inl g1413)), (w, .inr (5, [.ref f1412_0, .int (nI ((κ w).2.2.1)), .int (nI f1412_2), .int (nI k1), .int f1412_4, .int (nI k1), .int 0, .int f1412_7, .int f1412_8, .ref f1412_9, .int (nI f1412_10), f1412_11, .int f1412_12, .int f1412_13]))] [w] _ _ := hB
    refine lv_aload_n hx hb dX5_step_51 rfl (lv_at hl 0 rfl) ?_
    refine va_get (D := D) (ci := 5) (v := .int (nI k1)) (C := RX5) (T := TX5) (N := 14) hx hb hts iX5_step_5 hown hN.1 hB.1 1 rfl rfl 3 (by decide) (hts _ mX5_step_1) (fun _ h9 => h9) rfl dX5_step_52 ?_
    refine lv_aload_n hx hb dX5_step_55 rfl (lv_at hl 0 rfl) ?_
    refine va_get (D := D) (ci := 5) (v := .int (nI f1412_2)) (C := RX5) (T := TX5) (N := 14) hx hb hts iX5_step_5 hown hN.1 hB.1 1 rfl rfl 2 (by decide) (hts _ mX5_step_2) (fun _ h9 => h9) rfl dX5_step_56 ?_
    refine lv_icmp_lt (tgt := 68) hx hb dX5_step_59 (by decide) (fun c1416 => ?_) (fun c1416 => ?_)
    · have c1416 : k1 < f1412_2 := (nI_ltI (a := k1) (b := f1412_2) (by omega) (by omega)).mp c1416
      refine lv_aload_n hx hb dX5_step_68 rfl (lv_at hl 0 rfl) ?_
      refine va_get (D := D) (ci := 5) (v := .ref f1412_0) (C := RX5) (T := TX5) (N := 14) hx hb hts iX5_step_5 hown hN.1 hB.1 1 rfl rfl 0 (by decide) (hts _ mX5_step_3) (fun _ h9 => h9) rfl dX5_step_69 ?_
      refine lv_aload_n hx hb dX5_step_72 rfl (lv_at hl 0 rfl) ?_
      refine va_get (D := D) (ci := 5) (v := .int (nI k1)) (C := RX5) (T := TX5) (N := 14) hx hb hts iX5_step_5 hown hN.1 hB.1 1 rfl rfl 3 (by decide) (hts _ mX5_step_1) (fun _ h9 => h9) rfl dX5_step_73 ?_
      refine ld_b (v := (g1413 k1)) hx hb hN hB.1 0 rfl (vp_in_nI (n := k1) (N := 600) (by omega) (by omega)) (by rw [(show ((nI k1) : Int32).toNatClampNeg = k1 from nI_clamp (n := k1) (by omega))]) dX5_step_76 ?_
      refine gn_i (fun x1417 => ?_)
      refine lv_istore_n (lv' := [(1, .int x1417), (0, .ref w)]) hx hb dX5_step_77 rfl hl (by decide) rfl (fun ls hl => ?_)
      refine lv_iload_n hx hb dX5_step_78 rfl (lv_at hl 0 rfl) ?_
      refine lv_bipush (v := 48) hx hb dX5_step_79 (by decide) ?_
      refine lv_icmp_lt (tgt := 184) hx hb dX5_step_81 (by decide) (fun c1418 => ?_) (fun c1418 => ?_)
      · refine lv_iload_n hx hb dX5_step_184 rfl (lv_at hl 0 rfl) ?_
        refine lv_bipush (v := 97) hx hb dX5_step_185 (by decide) ?_
        refine lv_icmp_lt (tgt := 253) hx hb dX5_step_187 (by decide) (fun c1419 => ?_) (fun c1419 => ?_)
        · refine lv_aload_n hx hb dX5_step_253 rfl (lv_at hl 1 rfl) ?_
          refine lv_iconst (v := 3) hx hb dX5_step_254 (by decide) ?_
          refine b_put (D := D) (ci := 5) (v := .int 3) (ty := .int) (C := RX5) (T := TX5) (N := 14) hx hb hts iX5_step_5 tyX5 tyX5_ok nmX5 hown hN hB 1 rfl rfl 4 (by decide) (hts _ mX5_step_6) (fun _ h9 => h9) rfl (by decide +kernel) rfl rfl (Nat.le_of_ble_eq_true rfl) (.inr ⟨rfl, List.mem_of_getElem? (i := 0) rfl⟩) dX5_step_255 (fun H locs hB => ?_)
          have hB : Bx B0 D _ [(f1412_0, .inl (cs 1, 600, .inl g1413)), (w, .inr (5, [.ref f1412_0, .int (nI ((κ w).2.2.1)), .int (nI f1412_2), .int (nI k1), .int 3, .int (nI k1), .int 0, .int f1412_7, .int f1412_8, .ref f1412_9, .int (nI f1412_10), f1412_11, .int f1412_12, .int f1412_13]))] [w] _ _ := hB
          refine lv_aload_n hx hb dX5_step_258 rfl (lv_at hl 1 rfl) ?_
          refine lv_iload_n hx hb dX5_step_259 rfl (lv_at hl 0 rfl) ?_
          refine b_put (D := D) (ci := 5) (v := .int x1417) (ty := .int) (C := RX5) (T := TX5) (N := 14) hx hb hts iX5_step_5 tyX5 tyX5_ok nmX5 hown hN hB 1 rfl rfl 6 (by decide) (hts _ mX5_step_5) (fun _ h9 => h9) rfl (by decide +kernel) rfl rfl (Nat.le_of_ble_eq_true rfl) (.inr ⟨rfl, List.mem_of_getElem? (i := 0) rfl⟩) dX5_step_260 (fun H locs hB => ?_)
          have hB : Bx B0 D _ [(f1412_0, .inl (cs 1, 600, .inl g1413)), (w, .inr (5, [.ref f1412_0, .int (nI ((κ w).2.2.1)), .int (nI f1412_2), .int (nI k1), .int 3, .int (nI k1), .int x1417, .int f1412_7, .int f1412_8, .ref f1412_9, .int (nI f1412_10), f1412_11, .int f1412_12, .int f1412_13]))] [w] _ _ := hB
          refine lv_aload_n hx hb dX5_step_263 rfl (lv_at hl 1 rfl) ?_
          refine lv_dup hx hb dX5_step_264 rfl ?_
          refine va_get (D := D) (ci := 5) (v := .int (nI k1)) (C := RX5) (T := TX5) (N := 14) hx hb hts iX5_step_5 hown hN.1 hB.1 1 rfl rfl 3 (by decide) (hts _ mX5_step_1) (fun _ h9 => h9) rfl dX5_step_265 ?_
          refine lv_iconst (v := 1) hx hb dX5_step_268 (by decide) ?_
          refine lv_iadd hx hb dX5_step_269 ?_
          refine tp_i (nI (k1 + 1)) (nI_add k1 1) ?_
          refine b_put (D := D) (ci := 5) (v := .int (nI (k1 + 1))) (ty := .int) (C := RX5) (T := TX5) (N := 14) hx hb hts iX5_step_5 tyX5 tyX5_ok nmX5 hown hN hB 1 rfl rfl 3 (by decide) (hts _ mX5_step_1) (fun _ h9 => h9) rfl (by decide +kernel) rfl rfl (Nat.le_of_ble_eq_true rfl) (.inr ⟨rfl, List.mem_of_getElem? (i := 0) rfl⟩) dX5_step_270 (fun H locs hB => ?_)
          have hB : Bx B0 D _ [(f1412_0, .inl (cs 1, 600, .inl g1413)), (w, .inr (5, [.ref f1412_0, .int (nI ((κ w).2.2.1)), .int (nI f1412_2), .int (nI (k1 + 1)), .int 3, .int (nI k1), .int x1417, .int f1412_7, .int f1412_8, .ref f1412_9, .int (nI f1412_10), f1412_11, .int f1412_12, .int f1412_13]))] [w] _ _ := hB
          have hT : WT B0 D cs T κ _ := hT.close hB ⟨⟨1, _, rfl, ok_6 hw.1 ⟨_, _, _, _, _, _, _, _, _, _, _, _, _, rfl, (by omega), (by omega), (by omega), (by omega), (by omega), t1412_0, t1412_9, c1412_11, c1412_p2⟩⟩, trivial⟩
          have hF : Fr B0 [10] κ H0 _ := hF.close hB (fa_c (by simp [hw.2]) fa_n)
          have hL : OkL B0 _ := hB.2.2.2.2.2
          have hP : va_P D vwCl [(f1412_0, .inl (cs 1, 600, .inl g1413)), (w, .inr (5, [.ref f1412_0, .int (nI ((κ w).2.2.1)), .int (nI f1412_2), .int (nI (k1 + 1)), .int 3, .int (nI k1), .int x1417, .int f1412_7, .int f1412_8, .ref f1412_9, .int (nI f1412_10), f1412_11, .int f1412_12, .int f1412_13]))] _ := hB.1
          exact en_v hx hb hr hlocks hL (Nat.zero_le _) (Nat.zero_le _) dX5_step_273 (⟨hT, hF, fun v h9 => ⟨_, hP 1 _ rfl, by rw [FI.eq h9 hat1412 rfl (by decide) rfl]; rfl⟩⟩)
        · refine lv_iload_n hx hb dX5_step_190 rfl (lv_at hl 0 rfl) ?_
          refine lv_bipush (v := 122) hx hb dX5_step_191 (by decide) ?_
          refine lv_icmp_gt (tgt := 253) hx hb dX5_step_193 (by decide) (fun c1420 => ?_) (fun c1420 => ?_)
          · refine lv_aload_n hx hb dX5_step_253 rfl (lv_at hl 1 rfl) ?_
            refine lv_iconst (v := 3) hx hb dX5_step_254 (by decide) ?_
            refine b_put (D := D) (ci := 5) (v := .int 3) (ty := .int) (C := RX5) (T := TX5) (N := 14) hx hb hts iX5_step_5 tyX5 tyX5_ok nmX5 hown hN hB 1 rfl rfl 4 (by decide) (hts _ mX5_step_6) (fun _ h9 => h9) rfl (by decide +kernel) rfl rfl (Nat.le_of_ble_eq_true rfl) (.inr ⟨rfl, List.mem_of_getElem? (i := 0) rfl⟩) dX5_step_255 (fun H locs hB => ?_)
            have hB : Bx B0 D _ [(f1412_0, .inl (cs 1, 600, .inl g1413)), (w, .inr (5, [.ref f1412_0, .int (nI ((κ w).2.2.1)), .int (nI f1412_2), .int (nI k1), .int 3, .int (nI k1), .int 0, .int f1412_7, .int f1412_8, .ref f1412_9, .int (nI f1412_10), f1412_11, .int f1412_12, .int f1412_13]))] [w] _ _ := hB
            refine lv_aload_n hx hb dX5_step_258 rfl (lv_at hl 1 rfl) ?_
            refine lv_iload_n hx hb dX5_step_259 rfl (lv_at hl 0 rfl) ?_
            refine b_put (D := D) (ci := 5) (v := .int x1417) (ty := .int) (C := RX5) (T := TX5) (N := 14) hx hb hts iX5_step_5 tyX5 tyX5_ok nmX5 hown hN hB 1 rfl rfl 6 (by decide) (hts _ mX5_step_5) (fun _ h9 => h9) rfl (by decide +kernel) rfl rfl (Nat.le_of_ble_eq_true rfl) (.inr ⟨rfl, List.mem_of_getElem? (i := 0) rfl⟩) dX5_step_260 (fun H locs hB => ?_)
            have hB : Bx B0 D _ [(f1412_0, .inl (cs 1, 600, .inl g1413)), (w, .inr (5, [.ref f1412_0, .int (nI ((κ w).2.2.1)), .int (nI f1412_2), .int (nI k1), .int 3, .int (nI k1), .int x1417, .int f1412_7, .int f1412_8, .ref f1412_9, .int (nI f1412_10), f1412_11, .int f1412_12, .int f1412_13]))] [w] _ _ := hB
            refine lv_aload_n hx hb dX5_step_263 rfl (lv_at hl 1 rfl) ?_
            refine lv_dup hx hb dX5_step_264 rfl ?_
            refine va_get (D := D) (ci := 5) (v := .int (nI k1)) (C := RX5) (T := TX5) (N := 14) hx hb hts iX5_step_5 hown hN.1 hB.1 1 rfl rfl 3 (by decide) (hts _ mX5_step_1) (fun _ h9 => h9) rfl dX5_step_265 ?_
            refine lv_iconst (v := 1) hx hb dX5_step_268 (by decide) ?_
            refine lv_iadd hx hb dX5_step_269 ?_
            refine tp_i (nI (k1 + 1)) (nI_add k1 1) ?_
            refine b_put (D := D) (ci := 5) (v := .int (nI (k1 + 1))) (ty := .int) (C := RX5) (T := TX5) (N := 14) hx hb hts iX5_step_5 tyX5 tyX5_ok nmX5 hown hN hB 1 rfl rfl 3 (by decide) (hts _ mX5_step_1) (fun _ h9 => h9) rfl (by decide +kernel) rfl rfl (Nat.le_of_ble_eq_true rfl) (.inr ⟨rfl, List.mem_of_getElem? (i := 0) rfl⟩) dX5_step_270 (fun H locs hB => ?_)
            have hB : Bx B0 D _ [(f1412_0, .inl (cs 1, 600, .inl g1413)), (w, .inr (5, [.ref f1412_0, .int (nI ((κ w).2.2.1)), .int (nI f1412_2), .int (nI (k1 + 1)), .int 3, .int (nI k1), .int x1417, .int f1412_7, .int f1412_8, .ref f1412_9, .int (nI f1412_10), f1412_11, .int f1412_12, .int f1412_13]))] [w] _ _ := hB
            have hT : WT B0 D cs T κ _ := hT.close hB ⟨⟨1, _, rfl, ok_6 hw.1 ⟨_, _, _, _, _, _, _, _, _, _, _, _, _, rfl, (by omega), (by omega), (by omega), (by omega), (by omega), t1412_0, t1412_9, c1412_11, c1412_p2⟩⟩, trivial⟩
            have hF : Fr B0 [10] κ H0 _ := hF.close hB (fa_c (by simp [hw.2]) fa_n)
            have hL : OkL B0 _ := hB.2.2.2.2.2
            have hP : va_P D vwCl [(f1412_0, .inl (cs 1, 600, .inl g1413)), (w, .inr (5, [.ref f1412_0, .int (nI ((κ w).2.2.1)), .int (nI f1412_2), .int (nI (k1 + 1)), .int 3, .int (nI k1), .int x1417, .int f1412_7, .int f1412_8, .ref f1412_9, .int (nI f1412_10), f1412_11, .int f1412_12, .int f1412_13]))] _ := hB.1
            exact en_v hx hb hr hlocks hL (Nat.zero_le _) (Nat.zero_le _) dX5_step_273 (⟨hT, hF, fun v h9 => ⟨_, hP 1 _ rfl, by rw [FI.eq h9 hat1412 rfl (by decide) rfl]; rfl⟩⟩)
          · refine lv_aload_n hx hb dX5_step_196 rfl (lv_at hl 1 rfl) ?_
            refine lv_iconst (v := 2) hx hb dX5_step_197 (by decide) ?_
            refine b_put (D := D) (ci := 5) (v := .int 2) (ty := .int) (C := RX5) (T := TX5) (N := 14) hx hb hts iX5_step_5 tyX5 tyX5_ok nmX5 hown hN hB 1 rfl rfl 4 (by decide) (hts _ mX5_step_6) (fun _ h9 => h9) rfl (by decide +kernel) rfl rfl (Nat.le_of_ble_eq_true rfl) (.inr ⟨rfl, List.mem_of_getElem? (i := 0) rfl⟩) dX5_step_198 (fun H locs hB => ?_)
            have hB : Bx B0 D _ [(f1412_0, .inl (cs 1, 600, .inl g1413)), (w, .inr (5, [.ref f1412_0, .int (nI ((κ w).2.2.1)), .int (nI f1412_2), .int (nI k1), .int 2, .int (nI k1), .int 0, .int f1412_7, .int f1412_8, .ref f1412_9, .int (nI f1412_10), f1412_11, .int f1412_12, .int f1412_13]))] [w] _ _ := hB
            have hB : Bx B0 D _ [(f1412_0, .inl (cs 1, 600, .inl g1413)), (w, .inr (5, [.ref f1412_0, .int (nI ((κ w).2.2.1)), .int (nI f1412_2), .int (nI k1), .int 2, .int (nI k1), .int 0, .int f1412_7, .int f1412_8, .ref f1412_9, .int (nI f1412_10), f1412_11, .int f1412_12, .int f1412_13]))] [w] _ _ := hB.ms (by simp) (fa_c hb1412 fa_n)
            refine lp_m (α := Nat) (nL := 3) (fun a9 => 600 - a9) (fun a9 H9 l9 => (a9 ≤ 600) ∧ (Bx B0 D H0 [(f1412_0, .inl (cs 1, 600, .inl g1413)), (w, .inr (5, [.ref f1412_0, .int (nI ((κ w).2.2.1)), .int (nI f1412_2), .int (nI a9), .int 2, .int (nI k1), .int 0, .int f1412_7, .int f1412_8, .ref f1412_9, .int (nI f1412_10), f1412_11, .int f1412_12, .int f1412_13]))] [w] H9 l9)) (fun a9 => [(0, .ref w)]) ?_ k1 _ _ _ ⟨(by show (k1) ≤ 600; omega), hB⟩ (lv_sub hl [1] rfl)
            rintro k3 H locs ls ih1421 ⟨hk3, hB⟩ hl
            have hl : lv_has ls 3 [(0, .ref w)] := hl
            have hk3 : k3 ≤ 600 := hk3
            have hB : Bx B0 D _ [(f1412_0, .inl (cs 1, 600, .inl g1413)), (w, .inr (5, [.ref f1412_0, .int (nI ((κ w).2.2.1)), .int (nI f1412_2), .int (nI k3), .int 2, .int (nI k1), .int 0, .int f1412_7, .int f1412_8, .ref f1412_9, .int (nI f1412_10), f1412_11, .int f1412_12, .int f1412_13]))] [w] _ _ := hB
            refine lv_aload_n hx hb dX5_step_201 rfl (lv_at hl 0 rfl) ?_
            refine va_get (D := D) (ci := 5) (v := .int (nI k3)) (C := RX5) (T := TX5) (N := 14) hx hb hts iX5_step_5 hown hN.1 hB.1 1 rfl rfl 3 (by decide) (hts _ mX5_step_1) (fun _ h9 => h9) rfl dX5_step_202 ?_
            refine lv_aload_n hx hb dX5_step_205 rfl (lv_at hl 0 rfl) ?_
            refine va_get (D := D) (ci := 5) (v := .int (nI f1412_2)) (C := RX5) (T := TX5) (N := 14) hx hb hts iX5_step_5 hown hN.1 hB.1 1 rfl rfl 2 (by decide) (hts _ mX5_step_2) (fun _ h9 => h9) rfl dX5_step_206 ?_
            refine lv_icmp_ge (tgt := 273) hx hb dX5_step_209 (by decide) (fun c1422 => ?_) (fun c1422 => ?_)
            · have c1422 : f1412_2 ≤ k3 := (nI_leI (a := f1412_2) (b := k3) (by omega) (by omega)).mp c1422
              have hT : WT B0 D cs T κ _ := hT.close hB ⟨⟨1, _, rfl, ok_6 hw.1 ⟨_, _, _, _, _, _, _, _, _, _, _, _, _, rfl, (by omega), (by omega), (by omega), (by omega), (by omega), t1412_0, t1412_9, c1412_11, c1412_p2⟩⟩, trivial⟩
              have hF : Fr B0 [10] κ H0 _ := hF.close hB (fa_c (by simp [hw.2]) fa_n)
              have hL : OkL B0 _ := hB.2.2.2.2.2
              have hP : va_P D vwCl [(f1412_0, .inl (cs 1, 600, .inl g1413)), (w, .inr (5, [.ref f1412_0, .int (nI ((κ w).2.2.1)), .int (nI f1412_2), .int (nI k3), .int 2, .int (nI k1), .int 0, .int f1412_7, .int f1412_8, .ref f1412_9, .int (nI f1412_10), f1412_11, .int f1412_12, .int f1412_13]))] _ := hB.1
              exact en_v hx hb hr hlocks hL (Nat.zero_le _) (Nat.zero_le _) dX5_step_273 (⟨hT, hF, fun v h9 => ⟨_, hP 1 _ rfl, by rw [FI.eq h9 hat1412 rfl (by decide) rfl]; rfl⟩⟩)
            · have c1422 : ¬ f1412_2 ≤ k3 := fun h9 => c1422 ((nI_leI (a := f1412_2) (b := k3) (by omega) (by omega)).mpr h9)
              refine lv_aload_n hx hb dX5_step_212 rfl (lv_at hl 0 rfl) ?_
              refine va_get (D := D) (ci := 5) (v := .ref f1412_0) (C := RX5) (T := TX5) (N := 14) hx hb hts iX5_step_5 hown hN.1 hB.1 1 rfl rfl 0 (by decide) (hts _ mX5_step_3) (fun _ h9 => h9) rfl dX5_step_213 ?_
              refine lv_aload_n hx hb dX5_step_216 rfl (lv_at hl 0 rfl) ?_
              refine va_get (D := D) (ci := 5) (v := .int (nI k3)) (C := RX5) (T := TX5) (N := 14) hx hb hts iX5_step_5 hown hN.1 hB.1 1 rfl rfl 3 (by decide) (hts _ mX5_step_1) (fun _ h9 => h9) rfl dX5_step_217 ?_
              refine ld_b (v := (g1413 k3)) hx hb hN hB.1 0 rfl (vp_in_nI (n := k3) (N := 600) (by omega) (by omega)) (by rw [(show ((nI k3) : Int32).toNatClampNeg = k3 from nI_clamp (n := k3) (by omega))]) dX5_step_220 ?_
              refine gn_i (fun x1423 => ?_)
              refine lv_bipush (v := 97) hx hb dX5_step_221 (by decide) ?_
              refine lv_icmp_lt (tgt := 273) hx hb dX5_step_223 (by decide) (fun c1424 => ?_) (fun c1424 => ?_)
              · have hT : WT B0 D cs T κ _ := hT.close hB ⟨⟨1, _, rfl, ok_6 hw.1 ⟨_, _, _, _, _, _, _, _, _, _, _, _, _, rfl, (by omega), (by omega), (by omega), (by omega), (by omega), t1412_0, t1412_9, c1412_11, c1412_p2⟩⟩, trivial⟩
                have hF : Fr B0 [10] κ H0 _ := hF.close hB (fa_c (by simp [hw.2]) fa_n)
                have hL : OkL B0 _ := hB.2.2.2.2.2
                have hP : va_P D vwCl [(f1412_0, .inl (cs 1, 600, .inl g1413)), (w, .inr (5, [.ref f1412_0, .int (nI ((κ w).2.2.1)), .int (nI f1412_2), .int (nI k3), .int 2, .int (nI k1), .int 0, .int f1412_7, .int f1412_8, .ref f1412_9, .int (nI f1412_10), f1412_11, .int f1412_12, .int f1412_13]))] _ := hB.1
                exact en_v hx hb hr hlocks hL (Nat.zero_le _) (Nat.zero_le _) dX5_step_273 (⟨hT, hF, fun v h9 => ⟨_, hP 1 _ rfl, by rw [FI.eq h9 hat1412 rfl (by decide) rfl]; rfl⟩⟩)
              · refine lv_aload_n hx hb dX5_step_226 rfl (lv_at hl 0 rfl) ?_
                refine va_get (D := D) (ci := 5) (v := .ref f1412_0) (C := RX5) (T := TX5) (N := 14) hx hb hts iX5_step_5 hown hN.1 hB.1 1 rfl rfl 0 (by decide) (hts _ mX5_step_3) (fun _ h9 => h9) rfl dX5_step_227 ?_
                refine lv_aload_n hx hb dX5_step_230 rfl (lv_at hl 0 rfl) ?_
                refine va_get (D := D) (ci := 5) (v := .int (nI k3)) (C := RX5) (T := TX5) (N := 14) hx hb hts iX5_step_5 hown hN.1 hB.1 1 rfl rfl 3 (by decide) (hts _ mX5_step_1) (fun _ h9 => h9) rfl dX5_step_231 ?_
                refine ld_b (v := (g1413 k3)) hx hb hN hB.1 0 rfl (vp_in_nI (n := k3) (N := 600) (by omega) (by omega)) (by rw [(show ((nI k3) : Int32).toNatClampNeg = k3 from nI_clamp (n := k3) (by omega))]) dX5_step_234 ?_
                refine gn_i (fun x1425 => ?_)
                refine lv_bipush (v := 122) hx hb dX5_step_235 (by decide) ?_
                refine lv_icmp_gt (tgt := 273) hx hb dX5_step_237 (by decide) (fun c1426 => ?_) (fun c1426 => ?_)
                · have hT : WT B0 D cs T κ _ := hT.close hB ⟨⟨1, _, rfl, ok_6 hw.1 ⟨_, _, _, _, _, _, _, _, _, _, _, _, _, rfl, (by omega), (by omega), (by omega), (by omega), (by omega), t1412_0, t1412_9, c1412_11, c1412_p2⟩⟩, trivial⟩
                  have hF : Fr B0 [10] κ H0 _ := hF.close hB (fa_c (by simp [hw.2]) fa_n)
                  have hL : OkL B0 _ := hB.2.2.2.2.2
                  have hP : va_P D vwCl [(f1412_0, .inl (cs 1, 600, .inl g1413)), (w, .inr (5, [.ref f1412_0, .int (nI ((κ w).2.2.1)), .int (nI f1412_2), .int (nI k3), .int 2, .int (nI k1), .int 0, .int f1412_7, .int f1412_8, .ref f1412_9, .int (nI f1412_10), f1412_11, .int f1412_12, .int f1412_13]))] _ := hB.1
                  exact en_v hx hb hr hlocks hL (Nat.zero_le _) (Nat.zero_le _) dX5_step_273 (⟨hT, hF, fun v h9 => ⟨_, hP 1 _ rfl, by rw [FI.eq h9 hat1412 rfl (by decide) rfl]; rfl⟩⟩)
                · refine lv_aload_n hx hb dX5_step_240 rfl (lv_at hl 0 rfl) ?_
                  refine lv_dup hx hb dX5_step_241 rfl ?_
                  refine va_get (D := D) (ci := 5) (v := .int (nI k3)) (C := RX5) (T := TX5) (N := 14) hx hb hts iX5_step_5 hown hN.1 hB.1 1 rfl rfl 3 (by decide) (hts _ mX5_step_1) (fun _ h9 => h9) rfl dX5_step_242 ?_
                  refine lv_iconst (v := 1) hx hb dX5_step_245 (by decide) ?_
                  refine lv_iadd hx hb dX5_step_246 ?_
                  refine tp_i (nI (k3 + 1)) (nI_add k3 1) ?_
                  refine b_put (D := D) (ci := 5) (v := .int (nI (k3 + 1))) (ty := .int) (C := RX5) (T := TX5) (N := 14) hx hb hts iX5_step_5 tyX5 tyX5_ok nmX5 hown hN hB 1 rfl rfl 3 (by decide) (hts _ mX5_step_1) (fun _ h9 => h9) rfl (by decide +kernel) rfl rfl (Nat.le_of_ble_eq_true rfl) (.inr ⟨rfl, List.mem_of_getElem? (i := 0) rfl⟩) dX5_step_247 (fun H locs hB => ?_)
                  have hB : Bx B0 D _ [(f1412_0, .inl (cs 1, 600, .inl g1413)), (w, .inr (5, [.ref f1412_0, .int (nI ((κ w).2.2.1)), .int (nI f1412_2), .int (nI (k3 + 1)), .int 2, .int (nI k1), .int 0, .int f1412_7, .int f1412_8, .ref f1412_9, .int (nI f1412_10), f1412_11, .int f1412_12, .int f1412_13]))] [w] _ _ := hB
                  refine lv_goto (tgt := 201) hx hb dX5_step_250 (by decide) ?_
                  exact ih1421 (k3 + 1) _ _ _ (by show 600 - ((k3 + 1)) < 600 - k3; omega) ⟨(by show ((k3 + 1)) ≤ 600; omega), hB⟩ (lv_sub hl [0] rfl)
      · refine lv_iload_n hx hb dX5_step_84 rfl (lv_at hl 0 rfl) ?_
        refine lv_bipush (v := 57) hx hb dX5_step_85 (by decide) ?_
        refine lv_icmp_gt (tgt := 184) hx hb dX5_step_87 (by decide) (fun c1427 => ?_) (fun c1427 => ?_)
        · refine lv_iload_n hx hb dX5_step_184 rfl (lv_at hl 0 rfl) ?_
          refine lv_bipush (v := 97) hx hb dX5_step_185 (by decide) ?_
          refine lv_icmp_lt (tgt := 253) hx hb dX5_step_187 (by decide) (fun c1428 => ?_) (fun c1428 => ?_)
          · refine lv_aload_n hx hb dX5_step_253 rfl (lv_at hl 1 rfl) ?_
            refine lv_iconst (v := 3) hx hb dX5_step_254 (by decide) ?_
            refine b_put (D := D) (ci := 5) (v := .int 3) (ty := .int) (C := RX5) (T := TX5) (N := 14) hx hb hts iX5_step_5 tyX5 tyX5_ok nmX5 hown hN hB 1 rfl rfl 4 (by decide) (hts _ mX5_step_6) (fun _ h9 => h9) rfl (by decide +kernel) rfl rfl (Nat.le_of_ble_eq_true rfl) (.inr ⟨rfl, List.mem_of_getElem? (i := 0) rfl⟩) dX5_step_255 (fun H locs hB => ?_)
            have hB : Bx B0 D _ [(f1412_0, .inl (cs 1, 600, .inl g1413)), (w, .inr (5, [.ref f1412_0, .int (nI ((κ w).2.2.1)), .int (nI f1412_2), .int (nI k1), .int 3, .int (nI k1), .int 0, .int f1412_7, .int f1412_8, .ref f1412_9, .int (nI f1412_10), f1412_11, .int f1412_12, .int f1412_13]))] [w] _ _ := hB
            refine lv_aload_n hx hb dX5_step_258 rfl (lv_at hl 1 rfl) ?_
            refine lv_iload_n hx hb dX5_step_259 rfl (lv_at hl 0 rfl) ?_
            refine b_put (D := D) (ci := 5) (v := .int x1417) (ty := .int) (C := RX5) (T := TX5) (N := 14) hx hb hts iX5_step_5 tyX5 tyX5_ok nmX5 hown hN hB 1 rfl rfl 6 (by decide) (hts _ mX5_step_5) (fun _ h9 => h9) rfl (by decide +kernel) rfl rfl (Nat.le_of_ble_eq_true rfl) (.inr ⟨rfl, List.mem_of_getElem? (i := 0) rfl⟩) dX5_step_260 (fun H locs hB => ?_)
            have hB : Bx B0 D _ [(f1412_0, .inl (cs 1, 600, .inl g1413)), (w, .inr (5, [.ref f1412_0, .int (nI ((κ w).2.2.1)), .int (nI f1412_2), .int (nI k1), .int 3, .int (nI k1), .int x1417, .int f1412_7, .int f1412_8, .ref f1412_9, .int (nI f1412_10), f1412_11, .int f1412_12, .int f1412_13]))] [w] _ _ := hB
            refine lv_aload_n hx hb dX5_step_263 rfl (lv_at hl 1 rfl) ?_
            refine lv_dup hx hb dX5_step_264 rfl ?_
            refine va_get (D := D) (ci := 5) (v := .int (nI k1)) (C := RX5) (T := TX5) (N := 14) hx hb hts iX5_step_5 hown hN.1 hB.1 1 rfl rfl 3 (by decide) (hts _ mX5_step_1) (fun _ h9 => h9) rfl dX5_step_265 ?_
            refine lv_iconst (v := 1) hx hb dX5_step_268 (by decide) ?_
            refine lv_iadd hx hb dX5_step_269 ?_
            refine tp_i (nI (k1 + 1)) (nI_add k1 1) ?_
            refine b_put (D := D) (ci := 5) (v := .int (nI (k1 + 1))) (ty := .int) (C := RX5) (T := TX5) (N := 14) hx hb hts iX5_step_5 tyX5 tyX5_ok nmX5 hown hN hB 1 rfl rfl 3 (by decide) (hts _ mX5_step_1) (fun _ h9 => h9) rfl (by decide +kernel) rfl rfl (Nat.le_of_ble_eq_true rfl) (.inr ⟨rfl, List.mem_of_getElem? (i := 0) rfl⟩) dX5_step_270 (fun H locs hB => ?_)
            have hB : Bx B0 D _ [(f1412_0, .inl (cs 1, 600, .inl g1413)), (w, .inr (5, [.ref f1412_0, .int (nI ((κ w).2.2.1)), .int (nI f1412_2), .int (nI (k1 + 1)), .int 3, .int (nI k1), .int x1417, .int f1412_7, .int f1412_8, .ref f1412_9, .int (nI f1412_10), f1412_11, .int f1412_12, .int f1412_13]))] [w] _ _ := hB
            have hT : WT B0 D cs T κ _ := hT.close hB ⟨⟨1, _, rfl, ok_6 hw.1 ⟨_, _, _, _, _, _, _, _, _, _, _, _, _, rfl, (by omega), (by omega), (by omega), (by omega), (by omega), t1412_0, t1412_9, c1412_11, c1412_p2⟩⟩, trivial⟩
            have hF : Fr B0 [10] κ H0 _ := hF.close hB (fa_c (by simp [hw.2]) fa_n)
            have hL : OkL B0 _ := hB.2.2.2.2.2
            have hP : va_P D vwCl [(f1412_0, .inl (cs 1, 600, .inl g1413)), (w, .inr (5, [.ref f1412_0, .int (nI ((κ w).2.2.1)), .int (nI f1412_2), .int (nI (k1 + 1)), .int 3, .int (nI k1), .int x1417, .int f1412_7, .int f1412_8, .ref f1412_9, .int (nI f1412_10), f1412_11, .int f1412_12, .int f1412_13]))] _ := hB.1
            exact en_v hx hb hr hlocks hL (Nat.zero_le _) (Nat.zero_le _) dX5_step_273 (⟨hT, hF, fun v h9 => ⟨_, hP 1 _ rfl, by rw [FI.eq h9 hat1412 rfl (by decide) rfl]; rfl⟩⟩)
          · refine lv_iload_n hx hb dX5_step_190 rfl (lv_at hl 0 rfl) ?_
            refine lv_bipush (v := 122) hx hb dX5_step_191 (by decide) ?_
            refine lv_icmp_gt (tgt := 253) hx hb dX5_step_193 (by decide) (fun c1429 => ?_) (fun c1429 => ?_)
            · refine lv_aload_n hx hb dX5_step_253 rfl (lv_at hl 1 rfl) ?_
              refine lv_iconst (v := 3) hx hb dX5_step_254 (by decide) ?_
              refine b_put (D := D) (ci := 5) (v := .int 3) (ty := .int) (C := RX5) (T := TX5) (N := 14) hx hb hts iX5_step_5 tyX5 tyX5_ok nmX5 hown hN hB 1 rfl rfl 4 (by decide) (hts _ mX5_step_6) (fun _ h9 => h9) rfl (by decide +kernel) rfl rfl (Nat.le_of_ble_eq_true rfl) (.inr ⟨rfl, List.mem_of_getElem? (i := 0) rfl⟩) dX5_step_255 (fun H locs hB => ?_)
              have hB : Bx B0 D _ [(f1412_0, .inl (cs 1, 600, .inl g1413)), (w, .inr (5, [.ref f1412_0, .int (nI ((κ w).2.2.1)), .int (nI f1412_2), .int (nI k1), .int 3, .int (nI k1), .int 0, .int f1412_7, .int f1412_8, .ref f1412_9, .int (nI f1412_10), f1412_11, .int f1412_12, .int f1412_13]))] [w] _ _ := hB
              refine lv_aload_n hx hb dX5_step_258 rfl (lv_at hl 1 rfl) ?_
              refine lv_iload_n hx hb dX5_step_259 rfl (lv_at hl 0 rfl) ?_
              refine b_put (D := D) (ci := 5) (v := .int x1417) (ty := .int) (C := RX5) (T := TX5) (N := 14) hx hb hts iX5_step_5 tyX5 tyX5_ok nmX5 hown hN hB 1 rfl rfl 6 (by decide) (hts _ mX5_step_5) (fun _ h9 => h9) rfl (by decide +kernel) rfl rfl (Nat.le_of_ble_eq_true rfl) (.inr ⟨rfl, List.mem_of_getElem? (i := 0) rfl⟩) dX5_step_260 (fun H locs hB => ?_)
              have hB : Bx B0 D _ [(f1412_0, .inl (cs 1, 600, .inl g1413)), (w, .inr (5, [.ref f1412_0, .int (nI ((κ w).2.2.1)), .int (nI f1412_2), .int (nI k1), .int 3, .int (nI k1), .int x1417, .int f1412_7, .int f1412_8, .ref f1412_9, .int (nI f1412_10), f1412_11, .int f1412_12, .int f1412_13]))] [w] _ _ := hB
              refine lv_aload_n hx hb dX5_step_263 rfl (lv_at hl 1 rfl) ?_
              refine lv_dup hx hb dX5_step_264 rfl ?_
              refine va_get (D := D) (ci := 5) (v := .int (nI k1)) (C := RX5) (T := TX5) (N := 14) hx hb hts iX5_step_5 hown hN.1 hB.1 1 rfl rfl 3 (by decide) (hts _ mX5_step_1) (fun _ h9 => h9) rfl dX5_step_265 ?_
              refine lv_iconst (v := 1) hx hb dX5_step_268 (by decide) ?_
              refine lv_iadd hx hb dX5_step_269 ?_
              refine tp_i (nI (k1 + 1)) (nI_add k1 1) ?_
              refine b_put (D := D) (ci := 5) (v := .int (nI (k1 + 1))) (ty := .int) (C := RX5) (T := TX5) (N := 14) hx hb hts iX5_step_5 tyX5 tyX5_ok nmX5 hown hN hB 1 rfl rfl 3 (by decide) (hts _ mX5_step_1) (fun _ h9 => h9) rfl (by decide +kernel) rfl rfl (Nat.le_of_ble_eq_true rfl) (.inr ⟨rfl, List.mem_of_getElem? (i := 0) rfl⟩) dX5_step_270 (fun H locs hB => ?_)
              have hB : Bx B0 D _ [(f1412_0, .inl (cs 1, 600, .inl g1413)), (w, .inr (5, [.ref f1412_0, .int (nI ((κ w).2.2.1)), .int (nI f1412_2), .int (nI (k1 + 1)), .int 3, .int (nI k1), .int x1417, .int f1412_7, .int f1412_8, .ref f1412_9, .int (nI f1412_10), f1412_11, .int f1412_12, .int f1412_13]))] [w] _ _ := hB
              have hT : WT B0 D cs T κ _ := hT.close hB ⟨⟨1, _, rfl, ok_6 hw.1 ⟨_, _, _, _, _, _, _, _, _, _, _, _, _, rfl, (by omega), (by omega), (by omega), (by omega), (by omega), t1412_0, t1412_9, c1412_11, c1412_p2⟩⟩, trivial⟩
              have hF : Fr B0 [10] κ H0 _ := hF.close hB (fa_c (by simp [hw.2]) fa_n)
              have hL : OkL B0 _ := hB.2.2.2.2.2
              have hP : va_P D vwCl [(f1412_0, .inl (cs 1, 600, .inl g1413)), (w, .inr (5, [.ref f1412_0, .int (nI ((κ w).2.2.1)), .int (nI f1412_2), .int (nI (k1 + 1)), .int 3, .int (nI k1), .int x1417, .int f1412_7, .int f1412_8, .ref f1412_9, .int (nI f1412_10), f1412_11, .int f1412_12, .int f1412_13]))] _ := hB.1
              exact en_v hx hb hr hlocks hL (Nat.zero_le _) (Nat.zero_le _) dX5_step_273 (⟨hT, hF, fun v h9 => ⟨_, hP 1 _ rfl, by rw [FI.eq h9 hat1412 rfl (by decide) rfl]; rfl⟩⟩)
            · refine lv_aload_n hx hb dX5_step_196 rfl (lv_at hl 1 rfl) ?_
              refine lv_iconst (v := 2) hx hb dX5_step_197 (by decide) ?_
              refine b_put (D := D) (ci := 5) (v := .int 2) (ty := .int) (C := RX5) (T := TX5) (N := 14) hx hb hts iX5_step_5 tyX5 tyX5_ok nmX5 hown hN hB 1 rfl rfl 4 (by decide) (hts _ mX5_step_6) (fun _ h9 => h9) rfl (by decide +kernel) rfl rfl (Nat.le_of_ble_eq_true rfl) (.inr ⟨rfl, List.mem_of_getElem? (i := 0) rfl⟩) dX5_step_198 (fun H locs hB => ?_)
              have hB : Bx B0 D _ [(f1412_0, .inl (cs 1, 600, .inl g1413)), (w, .inr (5, [.ref f1412_0, .int (nI ((κ w).2.2.1)), .int (nI f1412_2), .int (nI k1), .int 2, .int (nI k1), .int 0, .int f1412_7, .int f1412_8, .ref f1412_9, .int (nI f1412_10), f1412_11, .int f1412_12, .int f1412_13]))] [w] _ _ := hB
              have hB : Bx B0 D _ [(f1412_0, .inl (cs 1, 600, .inl g1413)), (w, .inr (5, [.ref f1412_0, .int (nI ((κ w).2.2.1)), .int (nI f1412_2), .int (nI k1), .int 2, .int (nI k1), .int 0, .int f1412_7, .int f1412_8, .ref f1412_9, .int (nI f1412_10), f1412_11, .int f1412_12, .int f1412_13]))] [w] _ _ := hB.ms (by simp) (fa_c hb1412 fa_n)
              refine lp_m (α := Nat) (nL := 3) (fun a9 => 600 - a9) (fun a9 H9 l9 => (a9 ≤ 600) ∧ (Bx B0 D H0 [(f1412_0, .inl (cs 1, 600, .inl g1413)), (w, .inr (5, [.ref f1412_0, .int (nI ((κ w).2.2.1)), .int (nI f1412_2), .int (nI a9), .int 2, .int (nI k1), .int 0, .int f1412_7, .int f1412_8, .ref f1412_9, .int (nI f1412_10), f1412_11, .int f1412_12, .int f1412_13]))] [w] H9 l9)) (fun a9 => [(0, .ref w)]) ?_ k1 _ _ _ ⟨(by show (k1) ≤ 600; omega), hB⟩ (lv_sub hl [1] rfl)
              rintro k3 H locs ls ih1430 ⟨hk3, hB⟩ hl
              have hl : lv_has ls 3 [(0, .ref w)] := hl
              have hk3 : k3 ≤ 600 := hk3
              have hB : Bx B0 D _ [(f1412_0, .inl (cs 1, 600, .inl g1413)), (w, .inr (5, [.ref f1412_0, .int (nI ((κ w).2.2.1)), .int (nI f1412_2), .int (nI k3), .int 2, .int (nI k1), .int 0, .int f1412_7, .int f1412_8, .ref f1412_9, .int (nI f1412_10), f1412_11, .int f1412_12, .int f1412_13]))] [w] _ _ := hB
              refine lv_aload_n hx hb dX5_step_201 rfl (lv_at hl 0 rfl) ?_
              refine va_get (D := D) (ci := 5) (v := .int (nI k3)) (C := RX5) (T := TX5) (N := 14) hx hb hts iX5_step_5 hown hN.1 hB.1 1 rfl rfl 3 (by decide) (hts _ mX5_step_1) (fun _ h9 => h9) rfl dX5_step_202 ?_
              refine lv_aload_n hx hb dX5_step_205 rfl (lv_at hl 0 rfl) ?_
              refine va_get (D := D) (ci := 5) (v := .int (nI f1412_2)) (C := RX5) (T := TX5) (N := 14) hx hb hts iX5_step_5 hown hN.1 hB.1 1 rfl rfl 2 (by decide) (hts _ mX5_step_2) (fun _ h9 => h9) rfl dX5_step_206 ?_
              refine lv_icmp_ge (tgt := 273) hx hb dX5_step_209 (by decide) (fun c1431 => ?_) (fun c1431 => ?_)
              · have c1431 : f1412_2 ≤ k3 := (nI_leI (a := f1412_2) (b := k3) (by omega) (by omega)).mp c1431
                have hT : WT B0 D cs T κ _ := hT.close hB ⟨⟨1, _, rfl, ok_6 hw.1 ⟨_, _, _, _, _, _, _, _, _, _, _, _, _, rfl, (by omega), (by omega), (by omega), (by omega), (by omega), t1412_0, t1412_9, c1412_11, c1412_p2⟩⟩, trivial⟩
                have hF : Fr B0 [10] κ H0 _ := hF.close hB (fa_c (by simp [hw.2]) fa_n)
                have hL : OkL B0 _ := hB.2.2.2.2.2
                have hP : va_P D vwCl [(f1412_0, .inl (cs 1, 600, .inl g1413)), (w, .inr (5, [.ref f1412_0, .int (nI ((κ w).2.2.1)), .int (nI f1412_2), .int (nI k3), .int 2, .int (nI k1), .int 0, .int f1412_7, .int f1412_8, .ref f1412_9, .int (nI f1412_10), f1412_11, .int f1412_12, .int f1412_13]))] _ := hB.1
                exact en_v hx hb hr hlocks hL (Nat.zero_le _) (Nat.zero_le _) dX5_step_273 (⟨hT, hF, fun v h9 => ⟨_, hP 1 _ rfl, by rw [FI.eq h9 hat1412 rfl (by decide) rfl]; rfl⟩⟩)
              · have c1431 : ¬ f1412_2 ≤ k3 := fun h9 => c1431 ((nI_leI (a := f1412_2) (b := k3) (by omega) (by omega)).mpr h9)
                refine lv_aload_n hx hb dX5_step_212 rfl (lv_at hl 0 rfl) ?_
                refine va_get (D := D) (ci := 5) (v := .ref f1412_0) (C := RX5) (T := TX5) (N := 14) hx hb hts iX5_step_5 hown hN.1 hB.1 1 rfl rfl 0 (by decide) (hts _ mX5_step_3) (fun _ h9 => h9) rfl dX5_step_213 ?_
                refine lv_aload_n hx hb dX5_step_216 rfl (lv_at hl 0 rfl) ?_
                refine va_get (D := D) (ci := 5) (v := .int (nI k3)) (C := RX5) (T := TX5) (N := 14) hx hb hts iX5_step_5 hown hN.1 hB.1 1 rfl rfl 3 (by decide) (hts _ mX5_step_1) (fun _ h9 => h9) rfl dX5_step_217 ?_
                refine ld_b (v := (g1413 k3)) hx hb hN hB.1 0 rfl (vp_in_nI (n := k3) (N := 600) (by omega) (by omega)) (by rw [(show ((nI k3) : Int32).toNatClampNeg = k3 from nI_clamp (n := k3) (by omega))]) dX5_step_220 ?_
                refine gn_i (fun x1432 => ?_)
                refine lv_bipush (v := 97) hx hb dX5_step_221 (by decide) ?_
                refine lv_icmp_lt (tgt := 273) hx hb dX5_step_223 (by decide) (fun c1433 => ?_) (fun c1433 => ?_)
                · have hT : WT B0 D cs T κ _ := hT.close hB ⟨⟨1, _, rfl, ok_6 hw.1 ⟨_, _, _, _, _, _, _, _, _, _, _, _, _, rfl, (by omega), (by omega), (by omega), (by omega), (by omega), t1412_0, t1412_9, c1412_11, c1412_p2⟩⟩, trivial⟩
                  have hF : Fr B0 [10] κ H0 _ := hF.close hB (fa_c (by simp [hw.2]) fa_n)
                  have hL : OkL B0 _ := hB.2.2.2.2.2
                  have hP : va_P D vwCl [(f1412_0, .inl (cs 1, 600, .inl g1413)), (w, .inr (5, [.ref f1412_0, .int (nI ((κ w).2.2.1)), .int (nI f1412_2), .int (nI k3), .int 2, .int (nI k1), .int 0, .int f1412_7, .int f1412_8, .ref f1412_9, .int (nI f1412_10), f1412_11, .int f1412_12, .int f1412_13]))] _ := hB.1
                  exact en_v hx hb hr hlocks hL (Nat.zero_le _) (Nat.zero_le _) dX5_step_273 (⟨hT, hF, fun v h9 => ⟨_, hP 1 _ rfl, by rw [FI.eq h9 hat1412 rfl (by decide) rfl]; rfl⟩⟩)
                · refine lv_aload_n hx hb dX5_step_226 rfl (lv_at hl 0 rfl) ?_
                  refine va_get (D := D) (ci := 5) (v := .ref f1412_0) (C := RX5) (T := TX5) (N := 14) hx hb hts iX5_step_5 hown hN.1 hB.1 1 rfl rfl 0 (by decide) (hts _ mX5_step_3) (fun _ h9 => h9) rfl dX5_step_227 ?_
                  refine lv_aload_n hx hb dX5_step_230 rfl (lv_at hl 0 rfl) ?_
                  refine va_get (D := D) (ci := 5) (v := .int (nI k3)) (C := RX5) (T := TX5) (N := 14) hx hb hts iX5_step_5 hown hN.1 hB.1 1 rfl rfl 3 (by decide) (hts _ mX5_step_1) (fun _ h9 => h9) rfl dX5_step_231 ?_
                  refine ld_b (v := (g1413 k3)) hx hb hN hB.1 0 rfl (vp_in_nI (n := k3) (N := 600) (by omega) (by omega)) (by rw [(show ((nI k3) : Int32).toNatClampNeg = k3 from nI_clamp (n := k3) (by omega))]) dX5_step_234 ?_
                  refine gn_i (fun x1434 => ?_)
                  refine lv_bipush (v := 122) hx hb dX5_step_235 (by decide) ?_
                  refine lv_icmp_gt (tgt := 273) hx hb dX5_step_237 (by decide) (fun c1435 => ?_) (fun c1435 => ?_)
                  · have hT : WT B0 D cs T κ _ := hT.close hB ⟨⟨1, _, rfl, ok_6 hw.1 ⟨_, _, _, _, _, _, _, _, _, _, _, _, _, rfl, (by omega), (by omega), (by omega), (by omega), (by omega), t1412_0, t1412_9, c1412_11, c1412_p2⟩⟩, trivial⟩
                    have hF : Fr B0 [10] κ H0 _ := hF.close hB (fa_c (by simp [hw.2]) fa_n)
                    have hL : OkL B0 _ := hB.2.2.2.2.2
                    have hP : va_P D vwCl [(f1412_0, .inl (cs 1, 600, .inl g1413)), (w, .inr (5, [.ref f1412_0, .int (nI ((κ w).2.2.1)), .int (nI f1412_2), .int (nI k3), .int 2, .int (nI k1), .int 0, .int f1412_7, .int f1412_8, .ref f1412_9, .int (nI f1412_10), f1412_11, .int f1412_12, .int f1412_13]))] _ := hB.1
                    exact en_v hx hb hr hlocks hL (Nat.zero_le _) (Nat.zero_le _) dX5_step_273 (⟨hT, hF, fun v h9 => ⟨_, hP 1 _ rfl, by rw [FI.eq h9 hat1412 rfl (by decide) rfl]; rfl⟩⟩)
                  · refine lv_aload_n hx hb dX5_step_240 rfl (lv_at hl 0 rfl) ?_
                    refine lv_dup hx hb dX5_step_241 rfl ?_
                    refine va_get (D := D) (ci := 5) (v := .int (nI k3)) (C := RX5) (T := TX5) (N := 14) hx hb hts iX5_step_5 hown hN.1 hB.1 1 rfl rfl 3 (by decide) (hts _ mX5_step_1) (fun _ h9 => h9) rfl dX5_step_242 ?_
                    refine lv_iconst (v := 1) hx hb dX5_step_245 (by decide) ?_
                    refine lv_iadd hx hb dX5_step_246 ?_
                    refine tp_i (nI (k3 + 1)) (nI_add k3 1) ?_
                    refine b_put (D := D) (ci := 5) (v := .int (nI (k3 + 1))) (ty := .int) (C := RX5) (T := TX5) (N := 14) hx hb hts iX5_step_5 tyX5 tyX5_ok nmX5 hown hN hB 1 rfl rfl 3 (by decide) (hts _ mX5_step_1) (fun _ h9 => h9) rfl (by decide +kernel) rfl rfl (Nat.le_of_ble_eq_true rfl) (.inr ⟨rfl, List.mem_of_getElem? (i := 0) rfl⟩) dX5_step_247 (fun H locs hB => ?_)
                    have hB : Bx B0 D _ [(f1412_0, .inl (cs 1, 600, .inl g1413)), (w, .inr (5, [.ref f1412_0, .int (nI ((κ w).2.2.1)), .int (nI f1412_2), .int (nI (k3 + 1)), .int 2, .int (nI k1), .int 0, .int f1412_7, .int f1412_8, .ref f1412_9, .int (nI f1412_10), f1412_11, .int f1412_12, .int f1412_13]))] [w] _ _ := hB
                    refine lv_goto (tgt := 201) hx hb dX5_step_250 (by decide) ?_
                    exact ih1430 (k3 + 1) _ _ _ (by show 600 - ((k3 + 1)) < 600 - k3; omega) ⟨(by show ((k3 + 1)) ≤ 600; omega), hB⟩ (lv_sub hl [0] rfl)
        · refine lv_aload_n hx hb dX5_step_90 rfl (lv_at hl 1 rfl) ?_
          refine lv_iconst (v := 1) hx hb dX5_step_91 (by decide) ?_
          refine b_put (D := D) (ci := 5) (v := .int 1) (ty := .int) (C := RX5) (T := TX5) (N := 14) hx hb hts iX5_step_5 tyX5 tyX5_ok nmX5 hown hN hB 1 rfl rfl 4 (by decide) (hts _ mX5_step_6) (fun _ h9 => h9) rfl (by decide +kernel) rfl rfl (Nat.le_of_ble_eq_true rfl) (.inr ⟨rfl, List.mem_of_getElem? (i := 0) rfl⟩) dX5_step_92 (fun H locs hB => ?_)
          have hB : Bx B0 D _ [(f1412_0, .inl (cs 1, 600, .inl g1413)), (w, .inr (5, [.ref f1412_0, .int (nI ((κ w).2.2.1)), .int (nI f1412_2), .int (nI k1), .int 1, .int (nI k1), .int 0, .int f1412_7, .int f1412_8, .ref f1412_9, .int (nI f1412_10), f1412_11, .int f1412_12, .int f1412_13]))] [w] _ _ := hB
          have hB : Bx B0 D _ [(f1412_0, .inl (cs 1, 600, .inl g1413)), (w, .inr (5, [.ref f1412_0, .int (nI ((κ w).2.2.1)), .int (nI f1412_2), .int (nI k1), .int 1, .int (nI k1), .int 0, .int f1412_7, .int f1412_8, .ref f1412_9, .int (nI f1412_10), f1412_11, .int f1412_12, .int f1412_13]))] [w] _ _ := hB.ms (by simp) (fa_c hb1412 fa_n)
          refine lp_m (α := Nat × Int32) (nL := 3) (fun a9 => 600 - a9.1) (fun a9 H9 l9 => (a9.1 ≤ 600) ∧ (Bx B0 D H0 [(f1412_0, .inl (cs 1, 600, .inl g1413)), (w, .inr (5, [.ref f1412_0, .int (nI ((κ w).2.2.1)), .int (nI f1412_2), .int (nI a9.1), .int 1, .int (nI k1), .int a9.2, .int f1412_7, .int f1412_8, .ref f1412_9, .int (nI f1412_10), f1412_11, .int f1412_12, .int f1412_13]))] [w] H9 l9)) (fun a9 => [(0, .ref w)]) ?_ (k1, 0) _ _ _ ⟨(by show (k1) ≤ 600; omega), hB⟩ (lv_sub hl [1] rfl)
          rintro ⟨k2, v2⟩ H locs ls ih1436 ⟨hk2, hB⟩ hl
          have hl : lv_has ls 3 [(0, .ref w)] := hl
          have hk2 : k2 ≤ 600 := hk2
          have hB : Bx B0 D _ [(f1412_0, .inl (cs 1, 600, .inl g1413)), (w, .inr (5, [.ref f1412_0, .int (nI ((κ w).2.2.1)), .int (nI f1412_2), .int (nI k2), .int 1, .int (nI k1), .int v2, .int f1412_7, .int f1412_8, .ref f1412_9, .int (nI f1412_10), f1412_11, .int f1412_12, .int f1412_13]))] [w] _ _ := hB
          refine lv_aload_n hx hb dX5_step_95 rfl (lv_at hl 0 rfl) ?_
          refine va_get (D := D) (ci := 5) (v := .int (nI k2)) (C := RX5) (T := TX5) (N := 14) hx hb hts iX5_step_5 hown hN.1 hB.1 1 rfl rfl 3 (by decide) (hts _ mX5_step_1) (fun _ h9 => h9) rfl dX5_step_96 ?_
          refine lv_aload_n hx hb dX5_step_99 rfl (lv_at hl 0 rfl) ?_
          refine va_get (D := D) (ci := 5) (v := .int (nI f1412_2)) (C := RX5) (T := TX5) (N := 14) hx hb hts iX5_step_5 hown hN.1 hB.1 1 rfl rfl 2 (by decide) (hts _ mX5_step_2) (fun _ h9 => h9) rfl dX5_step_100 ?_
          refine lv_icmp_ge (tgt := 273) hx hb dX5_step_103 (by decide) (fun c1437 => ?_) (fun c1437 => ?_)
          · have c1437 : f1412_2 ≤ k2 := (nI_leI (a := f1412_2) (b := k2) (by omega) (by omega)).mp c1437
            have hT : WT B0 D cs T κ _ := hT.close hB ⟨⟨1, _, rfl, ok_6 hw.1 ⟨_, _, _, _, _, _, _, _, _, _, _, _, _, rfl, (by omega), (by omega), (by omega), (by omega), (by omega), t1412_0, t1412_9, c1412_11, c1412_p2⟩⟩, trivial⟩
            have hF : Fr B0 [10] κ H0 _ := hF.close hB (fa_c (by simp [hw.2]) fa_n)
            have hL : OkL B0 _ := hB.2.2.2.2.2
            have hP : va_P D vwCl [(f1412_0, .inl (cs 1, 600, .inl g1413)), (w, .inr (5, [.ref f1412_0, .int (nI ((κ w).2.2.1)), .int (nI f1412_2), .int (nI k2), .int 1, .int (nI k1), .int v2, .int f1412_7, .int f1412_8, .ref f1412_9, .int (nI f1412_10), f1412_11, .int f1412_12, .int f1412_13]))] _ := hB.1
            exact en_v hx hb hr hlocks hL (Nat.zero_le _) (Nat.zero_le _) dX5_step_273 (⟨hT, hF, fun v h9 => ⟨_, hP 1 _ rfl, by rw [FI.eq h9 hat1412 rfl (by decide) rfl]; rfl⟩⟩)
          · have c1437 : ¬ f1412_2 ≤ k2 := fun h9 => c1437 ((nI_leI (a := f1412_2) (b := k2) (by omega) (by omega)).mpr h9)
            refine lv_aload_n hx hb dX5_step_106 rfl (lv_at hl 0 rfl) ?_
            refine va_get (D := D) (ci := 5) (v := .ref f1412_0) (C := RX5) (T := TX5) (N := 14) hx hb hts iX5_step_5 hown hN.1 hB.1 1 rfl rfl 0 (by decide) (hts _ mX5_step_3) (fun _ h9 => h9) rfl dX5_step_107 ?_
            refine lv_aload_n hx hb dX5_step_110 rfl (lv_at hl 0 rfl) ?_
            refine va_get (D := D) (ci := 5) (v := .int (nI k2)) (C := RX5) (T := TX5) (N := 14) hx hb hts iX5_step_5 hown hN.1 hB.1 1 rfl rfl 3 (by decide) (hts _ mX5_step_1) (fun _ h9 => h9) rfl dX5_step_111 ?_
            refine ld_b (v := (g1413 k2)) hx hb hN hB.1 0 rfl (vp_in_nI (n := k2) (N := 600) (by omega) (by omega)) (by rw [(show ((nI k2) : Int32).toNatClampNeg = k2 from nI_clamp (n := k2) (by omega))]) dX5_step_114 ?_
            refine gn_i (fun x1438 => ?_)
            refine lv_bipush (v := 48) hx hb dX5_step_115 (by decide) ?_
            refine lv_icmp_lt (tgt := 273) hx hb dX5_step_117 (by decide) (fun c1439 => ?_) (fun c1439 => ?_)
            · have hT : WT B0 D cs T κ _ := hT.close hB ⟨⟨1, _, rfl, ok_6 hw.1 ⟨_, _, _, _, _, _, _, _, _, _, _, _, _, rfl, (by omega), (by omega), (by omega), (by omega), (by omega), t1412_0, t1412_9, c1412_11, c1412_p2⟩⟩, trivial⟩
              have hF : Fr B0 [10] κ H0 _ := hF.close hB (fa_c (by simp [hw.2]) fa_n)
              have hL : OkL B0 _ := hB.2.2.2.2.2
              have hP : va_P D vwCl [(f1412_0, .inl (cs 1, 600, .inl g1413)), (w, .inr (5, [.ref f1412_0, .int (nI ((κ w).2.2.1)), .int (nI f1412_2), .int (nI k2), .int 1, .int (nI k1), .int v2, .int f1412_7, .int f1412_8, .ref f1412_9, .int (nI f1412_10), f1412_11, .int f1412_12, .int f1412_13]))] _ := hB.1
              exact en_v hx hb hr hlocks hL (Nat.zero_le _) (Nat.zero_le _) dX5_step_273 (⟨hT, hF, fun v h9 => ⟨_, hP 1 _ rfl, by rw [FI.eq h9 hat1412 rfl (by decide) rfl]; rfl⟩⟩)
            · refine lv_aload_n hx hb dX5_step_120 rfl (lv_at hl 0 rfl) ?_
              refine va_get (D := D) (ci := 5) (v := .ref f1412_0) (C := RX5) (T := TX5) (N := 14) hx hb hts iX5_step_5 hown hN.1 hB.1 1 rfl rfl 0 (by decide) (hts _ mX5_step_3) (fun _ h9 => h9) rfl dX5_step_121 ?_
              refine lv_aload_n hx hb dX5_step_124 rfl (lv_at hl 0 rfl) ?_
              refine va_get (D := D) (ci := 5) (v := .int (nI k2)) (C := RX5) (T := TX5) (N := 14) hx hb hts iX5_step_5 hown hN.1 hB.1 1 rfl rfl 3 (by decide) (hts _ mX5_step_1) (fun _ h9 => h9) rfl dX5_step_125 ?_
              refine ld_b (v := (g1413 k2)) hx hb hN hB.1 0 rfl (vp_in_nI (n := k2) (N := 600) (by omega) (by omega)) (by rw [(show ((nI k2) : Int32).toNatClampNeg = k2 from nI_clamp (n := k2) (by omega))]) dX5_step_128 ?_
              refine gn_i (fun x1440 => ?_)
              refine lv_bipush (v := 57) hx hb dX5_step_129 (by decide) ?_
              refine lv_icmp_gt (tgt := 273) hx hb dX5_step_131 (by decide) (fun c1441 => ?_) (fun c1441 => ?_)
              · have hT : WT B0 D cs T κ _ := hT.close hB ⟨⟨1, _, rfl, ok_6 hw.1 ⟨_, _, _, _, _, _, _, _, _, _, _, _, _, rfl, (by omega), (by omega), (by omega), (by omega), (by omega), t1412_0, t1412_9, c1412_11, c1412_p2⟩⟩, trivial⟩
                have hF : Fr B0 [10] κ H0 _ := hF.close hB (fa_c (by simp [hw.2]) fa_n)
                have hL : OkL B0 _ := hB.2.2.2.2.2
                have hP : va_P D vwCl [(f1412_0, .inl (cs 1, 600, .inl g1413)), (w, .inr (5, [.ref f1412_0, .int (nI ((κ w).2.2.1)), .int (nI f1412_2), .int (nI k2), .int 1, .int (nI k1), .int v2, .int f1412_7, .int f1412_8, .ref f1412_9, .int (nI f1412_10), f1412_11, .int f1412_12, .int f1412_13]))] _ := hB.1
                exact en_v hx hb hr hlocks hL (Nat.zero_le _) (Nat.zero_le _) dX5_step_273 (⟨hT, hF, fun v h9 => ⟨_, hP 1 _ rfl, by rw [FI.eq h9 hat1412 rfl (by decide) rfl]; rfl⟩⟩)
              · refine lv_bipush (v := 10) hx hb dX5_step_134 (by decide) ?_
                refine lv_aload_n hx hb dX5_step_136 rfl (lv_at hl 0 rfl) ?_
                refine va_get (D := D) (ci := 5) (v := .int v2) (C := RX5) (T := TX5) (N := 14) hx hb hts iX5_step_5 hown hN.1 hB.1 1 rfl rfl 6 (by decide) (hts _ mX5_step_5) (fun _ h9 => h9) rfl dX5_step_137 ?_
                refine lv_imul hx hb dX5_step_140 ?_
                refine gn_i (fun x1442 => ?_)
                refine lv_aload_n hx hb dX5_step_141 rfl (lv_at hl 0 rfl) ?_
                refine va_get (D := D) (ci := 5) (v := .ref f1412_0) (C := RX5) (T := TX5) (N := 14) hx hb hts iX5_step_5 hown hN.1 hB.1 1 rfl rfl 0 (by decide) (hts _ mX5_step_3) (fun _ h9 => h9) rfl dX5_step_142 ?_
                refine lv_aload_n hx hb dX5_step_145 rfl (lv_at hl 0 rfl) ?_
                refine va_get (D := D) (ci := 5) (v := .int (nI k2)) (C := RX5) (T := TX5) (N := 14) hx hb hts iX5_step_5 hown hN.1 hB.1 1 rfl rfl 3 (by decide) (hts _ mX5_step_1) (fun _ h9 => h9) rfl dX5_step_146 ?_
                refine ld_b (v := (g1413 k2)) hx hb hN hB.1 0 rfl (vp_in_nI (n := k2) (N := 600) (by omega) (by omega)) (by rw [(show ((nI k2) : Int32).toNatClampNeg = k2 from nI_clamp (n := k2) (by omega))]) dX5_step_149 ?_
                refine gn_i (fun x1443 => ?_)
                refine lv_iadd hx hb dX5_step_150 ?_
                refine gn_i (fun x1444 => ?_)
                refine lv_bipush (v := 48) hx hb dX5_step_151 (by decide) ?_
                refine lv_isub hx hb dX5_step_153 ?_
                refine gn_i (fun x1445 => ?_)
                refine lv_istore_n (lv' := [(2, .int x1445), (0, .ref w)]) hx hb dX5_step_154 rfl hl (by decide) rfl (fun ls hl => ?_)
                refine lv_aload_n hx hb dX5_step_155 rfl (lv_at hl 1 rfl) ?_
                refine lv_iload_n hx hb dX5_step_156 rfl (lv_at hl 0 rfl) ?_
                refine lv_ldc (v := 1000000) hx hb hown (hts _ mX5_step_7) dX5_step_157 ?_
                refine lv_icmp_ge (tgt := 166) hx hb dX5_step_159 (by decide) (fun c1446 => ?_) (fun c1446 => ?_)
                · refine lv_ldc (v := 1000000) hx hb hown (hts _ mX5_step_7) dX5_step_166 ?_
                  refine b_put (D := D) (ci := 5) (v := .int 1000000) (ty := .int) (C := RX5) (T := TX5) (N := 14) hx hb hts iX5_step_5 tyX5 tyX5_ok nmX5 hown hN hB 1 rfl rfl 6 (by decide) (hts _ mX5_step_5) (fun _ h9 => h9) rfl (by decide +kernel) rfl rfl (Nat.le_of_ble_eq_true rfl) (.inr ⟨rfl, List.mem_of_getElem? (i := 0) rfl⟩) dX5_step_168 (fun H locs hB => ?_)
                  have hB : Bx B0 D _ [(f1412_0, .inl (cs 1, 600, .inl g1413)), (w, .inr (5, [.ref f1412_0, .int (nI ((κ w).2.2.1)), .int (nI f1412_2), .int (nI k2), .int 1, .int (nI k1), .int 1000000, .int f1412_7, .int f1412_8, .ref f1412_9, .int (nI f1412_10), f1412_11, .int f1412_12, .int f1412_13]))] [w] _ _ := hB
                  refine lv_aload_n hx hb dX5_step_171 rfl (lv_at hl 1 rfl) ?_
                  refine lv_dup hx hb dX5_step_172 rfl ?_
                  refine va_get (D := D) (ci := 5) (v := .int (nI k2)) (C := RX5) (T := TX5) (N := 14) hx hb hts iX5_step_5 hown hN.1 hB.1 1 rfl rfl 3 (by decide) (hts _ mX5_step_1) (fun _ h9 => h9) rfl dX5_step_173 ?_
                  refine lv_iconst (v := 1) hx hb dX5_step_176 (by decide) ?_
                  refine lv_iadd hx hb dX5_step_177 ?_
                  refine tp_i (nI (k2 + 1)) (nI_add k2 1) ?_
                  refine b_put (D := D) (ci := 5) (v := .int (nI (k2 + 1))) (ty := .int) (C := RX5) (T := TX5) (N := 14) hx hb hts iX5_step_5 tyX5 tyX5_ok nmX5 hown hN hB 1 rfl rfl 3 (by decide) (hts _ mX5_step_1) (fun _ h9 => h9) rfl (by decide +kernel) rfl rfl (Nat.le_of_ble_eq_true rfl) (.inr ⟨rfl, List.mem_of_getElem? (i := 0) rfl⟩) dX5_step_178 (fun H locs hB => ?_)
                  have hB : Bx B0 D _ [(f1412_0, .inl (cs 1, 600, .inl g1413)), (w, .inr (5, [.ref f1412_0, .int (nI ((κ w).2.2.1)), .int (nI f1412_2), .int (nI (k2 + 1)), .int 1, .int (nI k1), .int 1000000, .int f1412_7, .int f1412_8, .ref f1412_9, .int (nI f1412_10), f1412_11, .int f1412_12, .int f1412_13]))] [w] _ _ := hB
                  refine lv_goto (tgt := 95) hx hb dX5_step_181 (by decide) ?_
                  exact ih1436 ((k2 + 1), 1000000) _ _ _ (by show 600 - ((k2 + 1)) < 600 - k2; omega) ⟨(by show ((k2 + 1)) ≤ 600; omega), hB⟩ (lv_sub hl [1] rfl)
                · refine lv_iload_n hx hb dX5_step_162 rfl (lv_at hl 0 rfl) ?_
                  refine lv_goto (tgt := 168) hx hb dX5_step_163 (by decide) ?_
                  refine b_put (D := D) (ci := 5) (v := .int x1445) (ty := .int) (C := RX5) (T := TX5) (N := 14) hx hb hts iX5_step_5 tyX5 tyX5_ok nmX5 hown hN hB 1 rfl rfl 6 (by decide) (hts _ mX5_step_5) (fun _ h9 => h9) rfl (by decide +kernel) rfl rfl (Nat.le_of_ble_eq_true rfl) (.inr ⟨rfl, List.mem_of_getElem? (i := 0) rfl⟩) dX5_step_168 (fun H locs hB => ?_)
                  have hB : Bx B0 D _ [(f1412_0, .inl (cs 1, 600, .inl g1413)), (w, .inr (5, [.ref f1412_0, .int (nI ((κ w).2.2.1)), .int (nI f1412_2), .int (nI k2), .int 1, .int (nI k1), .int x1445, .int f1412_7, .int f1412_8, .ref f1412_9, .int (nI f1412_10), f1412_11, .int f1412_12, .int f1412_13]))] [w] _ _ := hB
                  refine lv_aload_n hx hb dX5_step_171 rfl (lv_at hl 1 rfl) ?_
                  refine lv_dup hx hb dX5_step_172 rfl ?_
                  refine va_get (D := D) (ci := 5) (v := .int (nI k2)) (C := RX5) (T := TX5) (N := 14) hx hb hts iX5_step_5 hown hN.1 hB.1 1 rfl rfl 3 (by decide) (hts _ mX5_step_1) (fun _ h9 => h9) rfl dX5_step_173 ?_
                  refine lv_iconst (v := 1) hx hb dX5_step_176 (by decide) ?_
                  refine lv_iadd hx hb dX5_step_177 ?_
                  refine tp_i (nI (k2 + 1)) (nI_add k2 1) ?_
                  refine b_put (D := D) (ci := 5) (v := .int (nI (k2 + 1))) (ty := .int) (C := RX5) (T := TX5) (N := 14) hx hb hts iX5_step_5 tyX5 tyX5_ok nmX5 hown hN hB 1 rfl rfl 3 (by decide) (hts _ mX5_step_1) (fun _ h9 => h9) rfl (by decide +kernel) rfl rfl (Nat.le_of_ble_eq_true rfl) (.inr ⟨rfl, List.mem_of_getElem? (i := 0) rfl⟩) dX5_step_178 (fun H locs hB => ?_)
                  have hB : Bx B0 D _ [(f1412_0, .inl (cs 1, 600, .inl g1413)), (w, .inr (5, [.ref f1412_0, .int (nI ((κ w).2.2.1)), .int (nI f1412_2), .int (nI (k2 + 1)), .int 1, .int (nI k1), .int x1445, .int f1412_7, .int f1412_8, .ref f1412_9, .int (nI f1412_10), f1412_11, .int f1412_12, .int f1412_13]))] [w] _ _ := hB
                  refine lv_goto (tgt := 95) hx hb dX5_step_181 (by decide) ?_
                  exact ih1436 ((k2 + 1), x1445) _ _ _ (by show 600 - ((k2 + 1)) < 600 - k2; omega) ⟨(by show ((k2 + 1)) ≤ 600; omega), hB⟩ (lv_sub hl [1] rfl)
    · have c1416 : ¬ k1 < f1412_2 := fun h9 => c1416 ((nI_ltI (a := k1) (b := f1412_2) (by omega) (by omega)).mpr h9)
      refine lv_aload_n hx hb dX5_step_62 rfl (lv_at hl 0 rfl) ?_
      refine lv_iconst (v := 0) hx hb dX5_step_63 (by decide) ?_
      refine b_put (D := D) (ci := 5) (v := .int 0) (ty := .int) (C := RX5) (T := TX5) (N := 14) hx hb hts iX5_step_5 tyX5 tyX5_ok nmX5 hown hN hB 1 rfl rfl 4 (by decide) (hts _ mX5_step_6) (fun _ h9 => h9) rfl (by decide +kernel) rfl rfl (Nat.le_of_ble_eq_true rfl) (.inr ⟨rfl, List.mem_of_getElem? (i := 0) rfl⟩) dX5_step_64 (fun H locs hB => ?_)
      have hB : Bx B0 D _ [(f1412_0, .inl (cs 1, 600, .inl g1413)), (w, .inr (5, [.ref f1412_0, .int (nI ((κ w).2.2.1)), .int (nI f1412_2), .int (nI k1), .int 0, .int (nI k1), .int 0, .int f1412_7, .int f1412_8, .ref f1412_9, .int (nI f1412_10), f1412_11, .int f1412_12, .int f1412_13]))] [w] _ _ := hB
      have hT : WT B0 D cs T κ _ := hT.close hB ⟨⟨1, _, rfl, ok_6 hw.1 ⟨_, _, _, _, _, _, _, _, _, _, _, _, _, rfl, (by omega), (by omega), (by omega), (by omega), (by omega), t1412_0, t1412_9, c1412_11, c1412_p2⟩⟩, trivial⟩
      have hF : Fr B0 [10] κ H0 _ := hF.close hB (fa_c (by simp [hw.2]) fa_n)
      have hL : OkL B0 _ := hB.2.2.2.2.2
      have hP : va_P D vwCl [(f1412_0, .inl (cs 1, 600, .inl g1413)), (w, .inr (5, [.ref f1412_0, .int (nI ((κ w).2.2.1)), .int (nI f1412_2), .int (nI k1), .int 0, .int (nI k1), .int 0, .int f1412_7, .int f1412_8, .ref f1412_9, .int (nI f1412_10), f1412_11, .int f1412_12, .int f1412_13]))] _ := hB.1
      exact en_v hx hb hr hlocks hL (Nat.zero_le _) (Nat.zero_le _) dX5_step_67 (⟨hT, hF, fun v h9 => ⟨_, hP 1 _ rfl, by rw [FI.eq h9 hat1412 rfl (by decide) rfl]; rfl⟩⟩)
  · have c1415 : ¬ f1412_2 ≤ k1 := fun h9 => c1415 ((nI_leI (a := f1412_2) (b := k1) (by omega) (by omega)).mpr h9)
    refine lv_aload_n hx hb dX5_step_11 rfl (lv_at hl 0 rfl) ?_
    refine va_get (D := D) (ci := 5) (v := .ref f1412_0) (C := RX5) (T := TX5) (N := 14) hx hb hts iX5_step_5 hown hN.1 hB.1 1 rfl rfl 0 (by decide) (hts _ mX5_step_3) (fun _ h9 => h9) rfl dX5_step_12 ?_
    refine lv_aload_n hx hb dX5_step_15 rfl (lv_at hl 0 rfl) ?_
    refine va_get (D := D) (ci := 5) (v := .int (nI k1)) (C := RX5) (T := TX5) (N := 14) hx hb hts iX5_step_5 hown hN.1 hB.1 1 rfl rfl 3 (by decide) (hts _ mX5_step_1) (fun _ h9 => h9) rfl dX5_step_16 ?_
    refine ld_b (v := (g1413 k1)) hx hb hN hB.1 0 rfl (vp_in_nI (n := k1) (N := 600) (by omega) (by omega)) (by rw [(show ((nI k1) : Int32).toNatClampNeg = k1 from nI_clamp (n := k1) (by omega))]) dX5_step_19 ?_
    refine gn_i (fun x1447 => ?_)
    refine lv_bipush (v := 32) hx hb dX5_step_20 (by decide) ?_
    refine lv_icmp_ne (tgt := 38) hx hb dX5_step_22 (by decide) (fun c1448 => ?_) (fun c1448 => ?_)
    · refine lv_aload_n hx hb dX5_step_38 rfl (lv_at hl 0 rfl) ?_
      refine lv_aload_n hx hb dX5_step_39 rfl (lv_at hl 0 rfl) ?_
      refine va_get (D := D) (ci := 5) (v := .int (nI k1)) (C := RX5) (T := TX5) (N := 14) hx hb hts iX5_step_5 hown hN.1 hB.1 1 rfl rfl 3 (by decide) (hts _ mX5_step_1) (fun _ h9 => h9) rfl dX5_step_40 ?_
      refine b_put (D := D) (ci := 5) (v := .int (nI k1)) (ty := .int) (C := RX5) (T := TX5) (N := 14) hx hb hts iX5_step_5 tyX5 tyX5_ok nmX5 hown hN hB 1 rfl rfl 5 (by decide) (hts _ mX5_step_4) (fun _ h9 => h9) rfl (by decide +kernel) rfl rfl (Nat.le_of_ble_eq_true rfl) (.inr ⟨rfl, List.mem_of_getElem? (i := 0) rfl⟩) dX5_step_43 (fun H locs hB => ?_)
      have hB : Bx B0 D _ [(f1412_0, .inl (cs 1, 600, .inl g1413)), (w, .inr (5, [.ref f1412_0, .int (nI ((κ w).2.2.1)), .int (nI f1412_2), .int (nI k1), .int f1412_4, .int (nI k1), .int f1412_6, .int f1412_7, .int f1412_8, .ref f1412_9, .int (nI f1412_10), f1412_11, .int f1412_12, .int f1412_13]))] [w] _ _ := hB
      refine lv_aload_n hx hb dX5_step_46 rfl (lv_at hl 0 rfl) ?_
      refine lv_iconst (v := 0) hx hb dX5_step_47 (by decide) ?_
      refine b_put (D := D) (ci := 5) (v := .int 0) (ty := .int) (C := RX5) (T := TX5) (N := 14) hx hb hts iX5_step_5 tyX5 tyX5_ok nmX5 hown hN hB 1 rfl rfl 6 (by decide) (hts _ mX5_step_5) (fun _ h9 => h9) rfl (by decide +kernel) rfl rfl (Nat.le_of_ble_eq_true rfl) (.inr ⟨rfl, List.mem_of_getElem? (i := 0) rfl⟩) dX5_step_48 (fun H locs hB => ?_)
      have hB : Bx B0 D _ [(f1412_0, .inl (cs 1, 600, .inl g1413)), (w, .inr (5, [.ref f1412_0, .int (nI ((κ w).2.2.1)), .int (nI f1412_2), .int (nI k1), .int f1412_4, .int (nI k1), .int 0, .int f1412_7, .int f1412_8, .ref f1412_9, .int (nI f1412_10), f1412_11, .int f1412_12, .int f1412_13]))] [w] _ _ := hB
      refine lv_aload_n hx hb dX5_step_51 rfl (lv_at hl 0 rfl) ?_
      refine va_get (D := D) (ci := 5) (v := .int (nI k1)) (C := RX5) (T := TX5) (N := 14) hx hb hts iX5_step_5 hown hN.1 hB.1 1 rfl rfl 3 (by decide) (hts _ mX5_step_1) (fun _ h9 => h9) rfl dX5_step_52 ?_
      refine lv_aload_n hx hb dX5_step_55 rfl (lv_at hl 0 rfl) ?_
      refine va_get (D := D) (ci := 5) (v := .int (nI f1412_2)) (C := RX5) (T := TX5) (N := 14) hx hb hts iX5_step_5 hown hN.1 hB.1 1 rfl rfl 2 (by decide) (hts _ mX5_step_2) (fun _ h9 => h9) rfl dX5_step_56 ?_
      refine lv_icmp_lt (tgt := 68) hx hb dX5_step_59 (by decide) (fun c1449 => ?_) (fun c1449 => ?_)
      · have c1449 : k1 < f1412_2 := (nI_ltI (a := k1) (b := f1412_2) (by omega) (by omega)).mp c1449
        refine lv_aload_n hx hb dX5_step_68 rfl (lv_at hl 0 rfl) ?_
        refine va_get (D := D) (ci := 5) (v := .ref f1412_0) (C := RX5) (T := TX5) (N := 14) hx hb hts iX5_step_5 hown hN.1 hB.1 1 rfl rfl 0 (by decide) (hts _ mX5_step_3) (fun _ h9 => h9) rfl dX5_step_69 ?_
        refine lv_aload_n hx hb dX5_step_72 rfl (lv_at hl 0 rfl) ?_
        refine va_get (D := D) (ci := 5) (v := .int (nI k1)) (C := RX5) (T := TX5) (N := 14) hx hb hts iX5_step_5 hown hN.1 hB.1 1 rfl rfl 3 (by decide) (hts _ mX5_step_1) (fun _ h9 => h9) rfl dX5_step_73 ?_
        refine ld_b (v := (g1413 k1)) hx hb hN hB.1 0 rfl (vp_in_nI (n := k1) (N := 600) (by omega) (by omega)) (by rw [(show ((nI k1) : Int32).toNatClampNeg = k1 from nI_clamp (n := k1) (by omega))]) dX5_step_76 ?_
        refine gn_i (fun x1450 => ?_)
        refine lv_istore_n (lv' := [(1, .int x1450), (0, .ref w)]) hx hb dX5_step_77 rfl hl (by decide) rfl (fun ls hl => ?_)
        refine lv_iload_n hx hb dX5_step_78 rfl (lv_at hl 0 rfl) ?_
        refine lv_bipush (v := 48) hx hb dX5_step_79 (by decide) ?_
        refine lv_icmp_lt (tgt := 184) hx hb dX5_step_81 (by decide) (fun c1451 => ?_) (fun c1451 => ?_)
        · refine lv_iload_n hx hb dX5_step_184 rfl (lv_at hl 0 rfl) ?_
          refine lv_bipush (v := 97) hx hb dX5_step_185 (by decide) ?_
          refine lv_icmp_lt (tgt := 253) hx hb dX5_step_187 (by decide) (fun c1452 => ?_) (fun c1452 => ?_)
          · refine lv_aload_n hx hb dX5_step_253 rfl (lv_at hl 1 rfl) ?_
            refine lv_iconst (v := 3) hx hb dX5_step_254 (by decide) ?_
            refine b_put (D := D) (ci := 5) (v := .int 3) (ty := .int) (C := RX5) (T := TX5) (N := 14) hx hb hts iX5_step_5 tyX5 tyX5_ok nmX5 hown hN hB 1 rfl rfl 4 (by decide) (hts _ mX5_step_6) (fun _ h9 => h9) rfl (by decide +kernel) rfl rfl (Nat.le_of_ble_eq_true rfl) (.inr ⟨rfl, List.mem_of_getElem? (i := 0) rfl⟩) dX5_step_255 (fun H locs hB => ?_)
            have hB : Bx B0 D _ [(f1412_0, .inl (cs 1, 600, .inl g1413)), (w, .inr (5, [.ref f1412_0, .int (nI ((κ w).2.2.1)), .int (nI f1412_2), .int (nI k1), .int 3, .int (nI k1), .int 0, .int f1412_7, .int f1412_8, .ref f1412_9, .int (nI f1412_10), f1412_11, .int f1412_12, .int f1412_13]))] [w] _ _ := hB
            refine lv_aload_n hx hb dX5_step_258 rfl (lv_at hl 1 rfl) ?_
            refine lv_iload_n hx hb dX5_step_259 rfl (lv_at hl 0 rfl) ?_
            refine b_put (D := D) (ci := 5) (v := .int x1450) (ty := .int) (C := RX5) (T := TX5) (N := 14) hx hb hts iX5_step_5 tyX5 tyX5_ok nmX5 hown hN hB 1 rfl rfl 6 (by decide) (hts _ mX5_step_5) (fun _ h9 => h9) rfl (by decide +kernel) rfl rfl (Nat.le_of_ble_eq_true rfl) (.inr ⟨rfl, List.mem_of_getElem? (i := 0) rfl⟩) dX5_step_260 (fun H locs hB => ?_)
            have hB : Bx B0 D _ [(f1412_0, .inl (cs 1, 600, .inl g1413)), (w, .inr (5, [.ref f1412_0, .int (nI ((κ w).2.2.1)), .int (nI f1412_2), .int (nI k1), .int 3, .int (nI k1), .int x1450, .int f1412_7, .int f1412_8, .ref f1412_9, .int (nI f1412_10), f1412_11, .int f1412_12, .int f1412_13]))] [w] _ _ := hB
            refine lv_aload_n hx hb dX5_step_263 rfl (lv_at hl 1 rfl) ?_
            refine lv_dup hx hb dX5_step_264 rfl ?_
            refine va_get (D := D) (ci := 5) (v := .int (nI k1)) (C := RX5) (T := TX5) (N := 14) hx hb hts iX5_step_5 hown hN.1 hB.1 1 rfl rfl 3 (by decide) (hts _ mX5_step_1) (fun _ h9 => h9) rfl dX5_step_265 ?_
            refine lv_iconst (v := 1) hx hb dX5_step_268 (by decide) ?_
            refine lv_iadd hx hb dX5_step_269 ?_
            refine tp_i (nI (k1 + 1)) (nI_add k1 1) ?_
            refine b_put (D := D) (ci := 5) (v := .int (nI (k1 + 1))) (ty := .int) (C := RX5) (T := TX5) (N := 14) hx hb hts iX5_step_5 tyX5 tyX5_ok nmX5 hown hN hB 1 rfl rfl 3 (by decide) (hts _ mX5_step_1) (fun _ h9 => h9) rfl (by decide +kernel) rfl rfl (Nat.le_of_ble_eq_true rfl) (.inr ⟨rfl, List.mem_of_getElem? (i := 0) rfl⟩) dX5_step_270 (fun H locs hB => ?_)
            have hB : Bx B0 D _ [(f1412_0, .inl (cs 1, 600, .inl g1413)), (w, .inr (5, [.ref f1412_0, .int (nI ((κ w).2.2.1)), .int (nI f1412_2), .int (nI (k1 + 1)), .int 3, .int (nI k1), .int x1450, .int f1412_7, .int f1412_8, .ref f1412_9, .int (nI f1412_10), f1412_11, .int f1412_12, .int f1412_13]))] [w] _ _ := hB
            have hT : WT B0 D cs T κ _ := hT.close hB ⟨⟨1, _, rfl, ok_6 hw.1 ⟨_, _, _, _, _, _, _, _, _, _, _, _, _, rfl, (by omega), (by omega), (by omega), (by omega), (by omega), t1412_0, t1412_9, c1412_11, c1412_p2⟩⟩, trivial⟩
            have hF : Fr B0 [10] κ H0 _ := hF.close hB (fa_c (by simp [hw.2]) fa_n)
            have hL : OkL B0 _ := hB.2.2.2.2.2
            have hP : va_P D vwCl [(f1412_0, .inl (cs 1, 600, .inl g1413)), (w, .inr (5, [.ref f1412_0, .int (nI ((κ w).2.2.1)), .int (nI f1412_2), .int (nI (k1 + 1)), .int 3, .int (nI k1), .int x1450, .int f1412_7, .int f1412_8, .ref f1412_9, .int (nI f1412_10), f1412_11, .int f1412_12, .int f1412_13]))] _ := hB.1
            exact en_v hx hb hr hlocks hL (Nat.zero_le _) (Nat.zero_le _) dX5_step_273 (⟨hT, hF, fun v h9 => ⟨_, hP 1 _ rfl, by rw [FI.eq h9 hat1412 rfl (by decide) rfl]; rfl⟩⟩)
          · refine lv_iload_n hx hb dX5_step_190 rfl (lv_at hl 0 rfl) ?_
            refine lv_bipush (v := 122) hx hb dX5_step_191 (by decide) ?_
            refine lv_icmp_gt (tgt := 253) hx hb dX5_step_193 (by decide) (fun c1453 => ?_) (fun c1453 => ?_)
            · refine lv_aload_n hx hb dX5_step_253 rfl (lv_at hl 1 rfl) ?_
              refine lv_iconst (v := 3) hx hb dX5_step_254 (by decide) ?_
              refine b_put (D := D) (ci := 5) (v := .int 3) (ty := .int) (C := RX5) (T := TX5) (N := 14) hx hb hts iX5_step_5 tyX5 tyX5_ok nmX5 hown hN hB 1 rfl rfl 4 (by decide) (hts _ mX5_step_6) (fun _ h9 => h9) rfl (by decide +kernel) rfl rfl (Nat.le_of_ble_eq_true rfl) (.inr ⟨rfl, List.mem_of_getElem? (i := 0) rfl⟩) dX5_step_255 (fun H locs hB => ?_)
              have hB : Bx B0 D _ [(f1412_0, .inl (cs 1, 600, .inl g1413)), (w, .inr (5, [.ref f1412_0, .int (nI ((κ w).2.2.1)), .int (nI f1412_2), .int (nI k1), .int 3, .int (nI k1), .int 0, .int f1412_7, .int f1412_8, .ref f1412_9, .int (nI f1412_10), f1412_11, .int f1412_12, .int f1412_13]))] [w] _ _ := hB
              refine lv_aload_n hx hb dX5_step_258 rfl (lv_at hl 1 rfl) ?_
              refine lv_iload_n hx hb dX5_step_259 rfl (lv_at hl 0 rfl) ?_
              refine b_put (D := D) (ci := 5) (v := .int x1450) (ty := .int) (C := RX5) (T := TX5) (N := 14) hx hb hts iX5_step_5 tyX5 tyX5_ok nmX5 hown hN hB 1 rfl rfl 6 (by decide) (hts _ mX5_step_5) (fun _ h9 => h9) rfl (by decide +kernel) rfl rfl (Nat.le_of_ble_eq_true rfl) (.inr ⟨rfl, List.mem_of_getElem? (i := 0) rfl⟩) dX5_step_260 (fun H locs hB => ?_)
              have hB : Bx B0 D _ [(f1412_0, .inl (cs 1, 600, .inl g1413)), (w, .inr (5, [.ref f1412_0, .int (nI ((κ w).2.2.1)), .int (nI f1412_2), .int (nI k1), .int 3, .int (nI k1), .int x1450, .int f1412_7, .int f1412_8, .ref f1412_9, .int (nI f1412_10), f1412_11, .int f1412_12, .int f1412_13]))] [w] _ _ := hB
              refine lv_aload_n hx hb dX5_step_263 rfl (lv_at hl 1 rfl) ?_
              refine lv_dup hx hb dX5_step_264 rfl ?_
              refine va_get (D := D) (ci := 5) (v := .int (nI k1)) (C := RX5) (T := TX5) (N := 14) hx hb hts iX5_step_5 hown hN.1 hB.1 1 rfl rfl 3 (by decide) (hts _ mX5_step_1) (fun _ h9 => h9) rfl dX5_step_265 ?_
              refine lv_iconst (v := 1) hx hb dX5_step_268 (by decide) ?_
              refine lv_iadd hx hb dX5_step_269 ?_
              refine tp_i (nI (k1 + 1)) (nI_add k1 1) ?_
              refine b_put (D := D) (ci := 5) (v := .int (nI (k1 + 1))) (ty := .int) (C := RX5) (T := TX5) (N := 14) hx hb hts iX5_step_5 tyX5 tyX5_ok nmX5 hown hN hB 1 rfl rfl 3 (by decide) (hts _ mX5_step_1) (fun _ h9 => h9) rfl (by decide +kernel) rfl rfl (Nat.le_of_ble_eq_true rfl) (.inr ⟨rfl, List.mem_of_getElem? (i := 0) rfl⟩) dX5_step_270 (fun H locs hB => ?_)
              have hB : Bx B0 D _ [(f1412_0, .inl (cs 1, 600, .inl g1413)), (w, .inr (5, [.ref f1412_0, .int (nI ((κ w).2.2.1)), .int (nI f1412_2), .int (nI (k1 + 1)), .int 3, .int (nI k1), .int x1450, .int f1412_7, .int f1412_8, .ref f1412_9, .int (nI f1412_10), f1412_11, .int f1412_12, .int f1412_13]))] [w] _ _ := hB
              have hT : WT B0 D cs T κ _ := hT.close hB ⟨⟨1, _, rfl, ok_6 hw.1 ⟨_, _, _, _, _, _, _, _, _, _, _, _, _, rfl, (by omega), (by omega), (by omega), (by omega), (by omega), t1412_0, t1412_9, c1412_11, c1412_p2⟩⟩, trivial⟩
              have hF : Fr B0 [10] κ H0 _ := hF.close hB (fa_c (by simp [hw.2]) fa_n)
              have hL : OkL B0 _ := hB.2.2.2.2.2
              have hP : va_P D vwCl [(f1412_0, .inl (cs 1, 600, .inl g1413)), (w, .inr (5, [.ref f1412_0, .int (nI ((κ w).2.2.1)), .int (nI f1412_2), .int (nI (k1 + 1)), .int 3, .int (nI k1), .int x1450, .int f1412_7, .int f1412_8, .ref f1412_9, .int (nI f1412_10), f1412_11, .int f1412_12, .int f1412_13]))] _ := hB.1
              exact en_v hx hb hr hlocks hL (Nat.zero_le _) (Nat.zero_le _) dX5_step_273 (⟨hT, hF, fun v h9 => ⟨_, hP 1 _ rfl, by rw [FI.eq h9 hat1412 rfl (by decide) rfl]; rfl⟩⟩)
            · refine lv_aload_n hx hb dX5_step_196 rfl (lv_at hl 1 rfl) ?_
              refine lv_iconst (v := 2) hx hb dX5_step_197 (by decide) ?_
              refine b_put (D := D) (ci := 5) (v := .int 2) (ty := .int) (C := RX5) (T := TX5) (N := 14) hx hb hts iX5_step_5 tyX5 tyX5_ok nmX5 hown hN hB 1 rfl rfl 4 (by decide) (hts _ mX5_step_6) (fun _ h9 => h9) rfl (by decide +kernel) rfl rfl (Nat.le_of_ble_eq_true rfl) (.inr ⟨rfl, List.mem_of_getElem? (i := 0) rfl⟩) dX5_step_198 (fun H locs hB => ?_)
              have hB : Bx B0 D _ [(f1412_0, .inl (cs 1, 600, .inl g1413)), (w, .inr (5, [.ref f1412_0, .int (nI ((κ w).2.2.1)), .int (nI f1412_2), .int (nI k1), .int 2, .int (nI k1), .int 0, .int f1412_7, .int f1412_8, .ref f1412_9, .int (nI f1412_10), f1412_11, .int f1412_12, .int f1412_13]))] [w] _ _ := hB
              have hB : Bx B0 D _ [(f1412_0, .inl (cs 1, 600, .inl g1413)), (w, .inr (5, [.ref f1412_0, .int (nI ((κ w).2.2.1)), .int (nI f1412_2), .int (nI k1), .int 2, .int (nI k1), .int 0, .int f1412_7, .int f1412_8, .ref f1412_9, .int (nI f1412_10), f1412_11, .int f1412_12, .int f1412_13]))] [w] _ _ := hB.ms (by simp) (fa_c hb1412 fa_n)
              refine lp_m (α := Nat) (nL := 3) (fun a9 => 600 - a9) (fun a9 H9 l9 => (a9 ≤ 600) ∧ (Bx B0 D H0 [(f1412_0, .inl (cs 1, 600, .inl g1413)), (w, .inr (5, [.ref f1412_0, .int (nI ((κ w).2.2.1)), .int (nI f1412_2), .int (nI a9), .int 2, .int (nI k1), .int 0, .int f1412_7, .int f1412_8, .ref f1412_9, .int (nI f1412_10), f1412_11, .int f1412_12, .int f1412_13]))] [w] H9 l9)) (fun a9 => [(0, .ref w)]) ?_ k1 _ _ _ ⟨(by show (k1) ≤ 600; omega), hB⟩ (lv_sub hl [1] rfl)
              rintro k3 H locs ls ih1454 ⟨hk3, hB⟩ hl
              have hl : lv_has ls 3 [(0, .ref w)] := hl
              have hk3 : k3 ≤ 600 := hk3
              have hB : Bx B0 D _ [(f1412_0, .inl (cs 1, 600, .inl g1413)), (w, .inr (5, [.ref f1412_0, .int (nI ((κ w).2.2.1)), .int (nI f1412_2), .int (nI k3), .int 2, .int (nI k1), .int 0, .int f1412_7, .int f1412_8, .ref f1412_9, .int (nI f1412_10), f1412_11, .int f1412_12, .int f1412_13]))] [w] _ _ := hB
              refine lv_aload_n hx hb dX5_step_201 rfl (lv_at hl 0 rfl) ?_
              refine va_get (D := D) (ci := 5) (v := .int (nI k3)) (C := RX5) (T := TX5) (N := 14) hx hb hts iX5_step_5 hown hN.1 hB.1 1 rfl rfl 3 (by decide) (hts _ mX5_step_1) (fun _ h9 => h9) rfl dX5_step_202 ?_
              refine lv_aload_n hx hb dX5_step_205 rfl (lv_at hl 0 rfl) ?_
              refine va_get (D := D) (ci := 5) (v := .int (nI f1412_2)) (C := RX5) (T := TX5) (N := 14) hx hb hts iX5_step_5 hown hN.1 hB.1 1 rfl rfl 2 (by decide) (hts _ mX5_step_2) (fun _ h9 => h9) rfl dX5_step_206 ?_
              refine lv_icmp_ge (tgt := 273) hx hb dX5_step_209 (by decide) (fun c1455 => ?_) (fun c1455 => ?_)
              · have c1455 : f1412_2 ≤ k3 := (nI_leI (a := f1412_2) (b := k3) (by omega) (by omega)).mp c1455
                have hT : WT B0 D cs T κ _ := hT.close hB ⟨⟨1, _, rfl, ok_6 hw.1 ⟨_, _, _, _, _, _, _, _, _, _, _, _, _, rfl, (by omega), (by omega), (by omega), (by omega), (by omega), t1412_0, t1412_9, c1412_11, c1412_p2⟩⟩, trivial⟩
                have hF : Fr B0 [10] κ H0 _ := hF.close hB (fa_c (by simp [hw.2]) fa_n)
                have hL : OkL B0 _ := hB.2.2.2.2.2
                have hP : va_P D vwCl [(f1412_0, .inl (cs 1, 600, .inl g1413)), (w, .inr (5, [.ref f1412_0, .int (nI ((κ w).2.2.1)), .int (nI f1412_2), .int (nI k3), .int 2, .int (nI k1), .int 0, .int f1412_7, .int f1412_8, .ref f1412_9, .int (nI f1412_10), f1412_11, .int f1412_12, .int f1412_13]))] _ := hB.1
                exact en_v hx hb hr hlocks hL (Nat.zero_le _) (Nat.zero_le _) dX5_step_273 (⟨hT, hF, fun v h9 => ⟨_, hP 1 _ rfl, by rw [FI.eq h9 hat1412 rfl (by decide) rfl]; rfl⟩⟩)
              · have c1455 : ¬ f1412_2 ≤ k3 := fun h9 => c1455 ((nI_leI (a := f1412_2) (b := k3) (by omega) (by omega)).mpr h9)
                refine lv_aload_n hx hb dX5_step_212 rfl (lv_at hl 0 rfl) ?_
                refine va_get (D := D) (ci := 5) (v := .ref f1412_0) (C := RX5) (T := TX5) (N := 14) hx hb hts iX5_step_5 hown hN.1 hB.1 1 rfl rfl 0 (by decide) (hts _ mX5_step_3) (fun _ h9 => h9) rfl dX5_step_213 ?_
                refine lv_aload_n hx hb dX5_step_216 rfl (lv_at hl 0 rfl) ?_
                refine va_get (D := D) (ci := 5) (v := .int (nI k3)) (C := RX5) (T := TX5) (N := 14) hx hb hts iX5_step_5 hown hN.1 hB.1 1 rfl rfl 3 (by decide) (hts _ mX5_step_1) (fun _ h9 => h9) rfl dX5_step_217 ?_
                refine ld_b (v := (g1413 k3)) hx hb hN hB.1 0 rfl (vp_in_nI (n := k3) (N := 600) (by omega) (by omega)) (by rw [(show ((nI k3) : Int32).toNatClampNeg = k3 from nI_clamp (n := k3) (by omega))]) dX5_step_220 ?_
                refine gn_i (fun x1456 => ?_)
                refine lv_bipush (v := 97) hx hb dX5_step_221 (by decide) ?_
                refine lv_icmp_lt (tgt := 273) hx hb dX5_step_223 (by decide) (fun c1457 => ?_) (fun c1457 => ?_)
                · have hT : WT B0 D cs T κ _ := hT.close hB ⟨⟨1, _, rfl, ok_6 hw.1 ⟨_, _, _, _, _, _, _, _, _, _, _, _, _, rfl, (by omega), (by omega), (by omega), (by omega), (by omega), t1412_0, t1412_9, c1412_11, c1412_p2⟩⟩, trivial⟩
                  have hF : Fr B0 [10] κ H0 _ := hF.close hB (fa_c (by simp [hw.2]) fa_n)
                  have hL : OkL B0 _ := hB.2.2.2.2.2
                  have hP : va_P D vwCl [(f1412_0, .inl (cs 1, 600, .inl g1413)), (w, .inr (5, [.ref f1412_0, .int (nI ((κ w).2.2.1)), .int (nI f1412_2), .int (nI k3), .int 2, .int (nI k1), .int 0, .int f1412_7, .int f1412_8, .ref f1412_9, .int (nI f1412_10), f1412_11, .int f1412_12, .int f1412_13]))] _ := hB.1
                  exact en_v hx hb hr hlocks hL (Nat.zero_le _) (Nat.zero_le _) dX5_step_273 (⟨hT, hF, fun v h9 => ⟨_, hP 1 _ rfl, by rw [FI.eq h9 hat1412 rfl (by decide) rfl]; rfl⟩⟩)
                · refine lv_aload_n hx hb dX5_step_226 rfl (lv_at hl 0 rfl) ?_
                  refine va_get (D := D) (ci := 5) (v := .ref f1412_0) (C := RX5) (T := TX5) (N := 14) hx hb hts iX5_step_5 hown hN.1 hB.1 1 rfl rfl 0 (by decide) (hts _ mX5_step_3) (fun _ h9 => h9) rfl dX5_step_227 ?_
                  refine lv_aload_n hx hb dX5_step_230 rfl (lv_at hl 0 rfl) ?_
                  refine va_get (D := D) (ci := 5) (v := .int (nI k3)) (C := RX5) (T := TX5) (N := 14) hx hb hts iX5_step_5 hown hN.1 hB.1 1 rfl rfl 3 (by decide) (hts _ mX5_step_1) (fun _ h9 => h9) rfl dX5_step_231 ?_
                  refine ld_b (v := (g1413 k3)) hx hb hN hB.1 0 rfl (vp_in_nI (n := k3) (N := 600) (by omega) (by omega)) (by rw [(show ((nI k3) : Int32).toNatClampNeg = k3 from nI_clamp (n := k3) (by omega))]) dX5_step_234 ?_
                  refine gn_i (fun x1458 => ?_)
                  refine lv_bipush (v := 122) hx hb dX5_step_235 (by decide) ?_
                  refine lv_icmp_gt (tgt := 273) hx hb dX5_step_237 (by decide) (fun c1459 => ?_) (fun c1459 => ?_)
                  · have hT : WT B0 D cs T κ _ := hT.close hB ⟨⟨1, _, rfl, ok_6 hw.1 ⟨_, _, _, _, _, _, _, _, _, _, _, _, _, rfl, (by omega), (by omega), (by omega), (by omega), (by omega), t1412_0, t1412_9, c1412_11, c1412_p2⟩⟩, trivial⟩
                    have hF : Fr B0 [10] κ H0 _ := hF.close hB (fa_c (by simp [hw.2]) fa_n)
                    have hL : OkL B0 _ := hB.2.2.2.2.2
                    have hP : va_P D vwCl [(f1412_0, .inl (cs 1, 600, .inl g1413)), (w, .inr (5, [.ref f1412_0, .int (nI ((κ w).2.2.1)), .int (nI f1412_2), .int (nI k3), .int 2, .int (nI k1), .int 0, .int f1412_7, .int f1412_8, .ref f1412_9, .int (nI f1412_10), f1412_11, .int f1412_12, .int f1412_13]))] _ := hB.1
                    exact en_v hx hb hr hlocks hL (Nat.zero_le _) (Nat.zero_le _) dX5_step_273 (⟨hT, hF, fun v h9 => ⟨_, hP 1 _ rfl, by rw [FI.eq h9 hat1412 rfl (by decide) rfl]; rfl⟩⟩)
                  · refine lv_aload_n hx hb dX5_step_240 rfl (lv_at hl 0 rfl) ?_
                    refine lv_dup hx hb dX5_step_241 rfl ?_
                    refine va_get (D := D) (ci := 5) (v := .int (nI k3)) (C := RX5) (T := TX5) (N := 14) hx hb hts iX5_step_5 hown hN.1 hB.1 1 rfl rfl 3 (by decide) (hts _ mX5_step_1) (fun _ h9 => h9) rfl dX5_step_242 ?_
                    refine lv_iconst (v := 1) hx hb dX5_step_245 (by decide) ?_
                    refine lv_iadd hx hb dX5_step_246 ?_
                    refine tp_i (nI (k3 + 1)) (nI_add k3 1) ?_
                    refine b_put (D := D) (ci := 5) (v := .int (nI (k3 + 1))) (ty := .int) (C := RX5) (T := TX5) (N := 14) hx hb hts iX5_step_5 tyX5 tyX5_ok nmX5 hown hN hB 1 rfl rfl 3 (by decide) (hts _ mX5_step_1) (fun _ h9 => h9) rfl (by decide +kernel) rfl rfl (Nat.le_of_ble_eq_true rfl) (.inr ⟨rfl, List.mem_of_getElem? (i := 0) rfl⟩) dX5_step_247 (fun H locs hB => ?_)
                    have hB : Bx B0 D _ [(f1412_0, .inl (cs 1, 600, .inl g1413)), (w, .inr (5, [.ref f1412_0, .int (nI ((κ w).2.2.1)), .int (nI f1412_2), .int (nI (k3 + 1)), .int 2, .int (nI k1), .int 0, .int f1412_7, .int f1412_8, .ref f1412_9, .int (nI f1412_10), f1412_11, .int f1412_12, .int f1412_13]))] [w] _ _ := hB
                    refine lv_goto (tgt := 201) hx hb dX5_step_250 (by decide) ?_
                    exact ih1454 (k3 + 1) _ _ _ (by show 600 - ((k3 + 1)) < 600 - k3; omega) ⟨(by show ((k3 + 1)) ≤ 600; omega), hB⟩ (lv_sub hl [0] rfl)
        · refine lv_iload_n hx hb dX5_step_84 rfl (lv_at hl 0 rfl) ?_
          refine lv_bipush (v := 57) hx hb dX5_step_85 (by decide) ?_
          refine lv_icmp_gt (tgt := 184) hx hb dX5_step_87 (by decide) (fun c1460 => ?_) (fun c1460 => ?_)
          · refine lv_iload_n hx hb dX5_step_184 rfl (lv_at hl 0 rfl) ?_
            refine lv_bipush (v := 97) hx hb dX5_step_185 (by decide) ?_
            refine lv_icmp_lt (tgt := 253) hx hb dX5_step_187 (by decide) (fun c1461 => ?_) (fun c1461 => ?_)
            · refine lv_aload_n hx hb dX5_step_253 rfl (lv_at hl 1 rfl) ?_
              refine lv_iconst (v := 3) hx hb dX5_step_254 (by decide) ?_
              refine b_put (D := D) (ci := 5) (v := .int 3) (ty := .int) (C := RX5) (T := TX5) (N := 14) hx hb hts iX5_step_5 tyX5 tyX5_ok nmX5 hown hN hB 1 rfl rfl 4 (by decide) (hts _ mX5_step_6) (fun _ h9 => h9) rfl (by decide +kernel) rfl rfl (Nat.le_of_ble_eq_true rfl) (.inr ⟨rfl, List.mem_of_getElem? (i := 0) rfl⟩) dX5_step_255 (fun H locs hB => ?_)
              have hB : Bx B0 D _ [(f1412_0, .inl (cs 1, 600, .inl g1413)), (w, .inr (5, [.ref f1412_0, .int (nI ((κ w).2.2.1)), .int (nI f1412_2), .int (nI k1), .int 3, .int (nI k1), .int 0, .int f1412_7, .int f1412_8, .ref f1412_9, .int (nI f1412_10), f1412_11, .int f1412_12, .int f1412_13]))] [w] _ _ := hB
              refine lv_aload_n hx hb dX5_step_258 rfl (lv_at hl 1 rfl) ?_
              refine lv_iload_n hx hb dX5_step_259 rfl (lv_at hl 0 rfl) ?_
              refine b_put (D := D) (ci := 5) (v := .int x1450) (ty := .int) (C := RX5) (T := TX5) (N := 14) hx hb hts iX5_step_5 tyX5 tyX5_ok nmX5 hown hN hB 1 rfl rfl 6 (by decide) (hts _ mX5_step_5) (fun _ h9 => h9) rfl (by decide +kernel) rfl rfl (Nat.le_of_ble_eq_true rfl) (.inr ⟨rfl, List.mem_of_getElem? (i := 0) rfl⟩) dX5_step_260 (fun H locs hB => ?_)
              have hB : Bx B0 D _ [(f1412_0, .inl (cs 1, 600, .inl g1413)), (w, .inr (5, [.ref f1412_0, .int (nI ((κ w).2.2.1)), .int (nI f1412_2), .int (nI k1), .int 3, .int (nI k1), .int x1450, .int f1412_7, .int f1412_8, .ref f1412_9, .int (nI f1412_10), f1412_11, .int f1412_12, .int f1412_13]))] [w] _ _ := hB
              refine lv_aload_n hx hb dX5_step_263 rfl (lv_at hl 1 rfl) ?_
              refine lv_dup hx hb dX5_step_264 rfl ?_
              refine va_get (D := D) (ci := 5) (v := .int (nI k1)) (C := RX5) (T := TX5) (N := 14) hx hb hts iX5_step_5 hown hN.1 hB.1 1 rfl rfl 3 (by decide) (hts _ mX5_step_1) (fun _ h9 => h9) rfl dX5_step_265 ?_
              refine lv_iconst (v := 1) hx hb dX5_step_268 (by decide) ?_
              refine lv_iadd hx hb dX5_step_269 ?_
              refine tp_i (nI (k1 + 1)) (nI_add k1 1) ?_
              refine b_put (D := D) (ci := 5) (v := .int (nI (k1 + 1))) (ty := .int) (C := RX5) (T := TX5) (N := 14) hx hb hts iX5_step_5 tyX5 tyX5_ok nmX5 hown hN hB 1 rfl rfl 3 (by decide) (hts _ mX5_step_1) (fun _ h9 => h9) rfl (by decide +kernel) rfl rfl (Nat.le_of_ble_eq_true rfl) (.inr ⟨rfl, List.mem_of_getElem? (i := 0) rfl⟩) dX5_step_270 (fun H locs hB => ?_)
              have hB : Bx B0 D _ [(f1412_0, .inl (cs 1, 600, .inl g1413)), (w, .inr (5, [.ref f1412_0, .int (nI ((κ w).2.2.1)), .int (nI f1412_2), .int (nI (k1 + 1)), .int 3, .int (nI k1), .int x1450, .int f1412_7, .int f1412_8, .ref f1412_9, .int (nI f1412_10), f1412_11, .int f1412_12, .int f1412_13]))] [w] _ _ := hB
              have hT : WT B0 D cs T κ _ := hT.close hB ⟨⟨1, _, rfl, ok_6 hw.1 ⟨_, _, _, _, _, _, _, _, _, _, _, _, _, rfl, (by omega), (by omega), (by omega), (by omega), (by omega), t1412_0, t1412_9, c1412_11, c1412_p2⟩⟩, trivial⟩
              have hF : Fr B0 [10] κ H0 _ := hF.close hB (fa_c (by simp [hw.2]) fa_n)
              have hL : OkL B0 _ := hB.2.2.2.2.2
              have hP : va_P D vwCl [(f1412_0, .inl (cs 1, 600, .inl g1413)), (w, .inr (5, [.ref f1412_0, .int (nI ((κ w).2.2.1)), .int (nI f1412_2), .int (nI (k1 + 1)), .int 3, .int (nI k1), .int x1450, .int f1412_7, .int f1412_8, .ref f1412_9, .int (nI f1412_10), f1412_11, .int f1412_12, .int f1412_13]))] _ := hB.1
              exact en_v hx hb hr hlocks hL (Nat.zero_le _) (Nat.zero_le _) dX5_step_273 (⟨hT, hF, fun v h9 => ⟨_, hP 1 _ rfl, by rw [FI.eq h9 hat1412 rfl (by decide) rfl]; rfl⟩⟩)
            · refine lv_iload_n hx hb dX5_step_190 rfl (lv_at hl 0 rfl) ?_
              refine lv_bipush (v := 122) hx hb dX5_step_191 (by decide) ?_
              refine lv_icmp_gt (tgt := 253) hx hb dX5_step_193 (by decide) (fun c1462 => ?_) (fun c1462 => ?_)
              · refine lv_aload_n hx hb dX5_step_253 rfl (lv_at hl 1 rfl) ?_
                refine lv_iconst (v := 3) hx hb dX5_step_254 (by decide) ?_
                refine b_put (D := D) (ci := 5) (v := .int 3) (ty := .int) (C := RX5) (T := TX5) (N := 14) hx hb hts iX5_step_5 tyX5 tyX5_ok nmX5 hown hN hB 1 rfl rfl 4 (by decide) (hts _ mX5_step_6) (fun _ h9 => h9) rfl (by decide +kernel) rfl rfl (Nat.le_of_ble_eq_true rfl) (.inr ⟨rfl, List.mem_of_getElem? (i := 0) rfl⟩) dX5_step_255 (fun H locs hB => ?_)
                have hB : Bx B0 D _ [(f1412_0, .inl (cs 1, 600, .inl g1413)), (w, .inr (5, [.ref f1412_0, .int (nI ((κ w).2.2.1)), .int (nI f1412_2), .int (nI k1), .int 3, .int (nI k1), .int 0, .int f1412_7, .int f1412_8, .ref f1412_9, .int (nI f1412_10), f1412_11, .int f1412_12, .int f1412_13]))] [w] _ _ := hB
                refine lv_aload_n hx hb dX5_step_258 rfl (lv_at hl 1 rfl) ?_
                refine lv_iload_n hx hb dX5_step_259 rfl (lv_at hl 0 rfl) ?_
                refine b_put (D := D) (ci := 5) (v := .int x1450) (ty := .int) (C := RX5) (T := TX5) (N := 14) hx hb hts iX5_step_5 tyX5 tyX5_ok nmX5 hown hN hB 1 rfl rfl 6 (by decide) (hts _ mX5_step_5) (fun _ h9 => h9) rfl (by decide +kernel) rfl rfl (Nat.le_of_ble_eq_true rfl) (.inr ⟨rfl, List.mem_of_getElem? (i := 0) rfl⟩) dX5_step_260 (fun H locs hB => ?_)
                have hB : Bx B0 D _ [(f1412_0, .inl (cs 1, 600, .inl g1413)), (w, .inr (5, [.ref f1412_0, .int (nI ((κ w).2.2.1)), .int (nI f1412_2), .int (nI k1), .int 3, .int (nI k1), .int x1450, .int f1412_7, .int f1412_8, .ref f1412_9, .int (nI f1412_10), f1412_11, .int f1412_12, .int f1412_13]))] [w] _ _ := hB
                refine lv_aload_n hx hb dX5_step_263 rfl (lv_at hl 1 rfl) ?_
                refine lv_dup hx hb dX5_step_264 rfl ?_
                refine va_get (D := D) (ci := 5) (v := .int (nI k1)) (C := RX5) (T := TX5) (N := 14) hx hb hts iX5_step_5 hown hN.1 hB.1 1 rfl rfl 3 (by decide) (hts _ mX5_step_1) (fun _ h9 => h9) rfl dX5_step_265 ?_
                refine lv_iconst (v := 1) hx hb dX5_step_268 (by decide) ?_
                refine lv_iadd hx hb dX5_step_269 ?_
                refine tp_i (nI (k1 + 1)) (nI_add k1 1) ?_
                refine b_put (D := D) (ci := 5) (v := .int (nI (k1 + 1))) (ty := .int) (C := RX5) (T := TX5) (N := 14) hx hb hts iX5_step_5 tyX5 tyX5_ok nmX5 hown hN hB 1 rfl rfl 3 (by decide) (hts _ mX5_step_1) (fun _ h9 => h9) rfl (by decide +kernel) rfl rfl (Nat.le_of_ble_eq_true rfl) (.inr ⟨rfl, List.mem_of_getElem? (i := 0) rfl⟩) dX5_step_270 (fun H locs hB => ?_)
                have hB : Bx B0 D _ [(f1412_0, .inl (cs 1, 600, .inl g1413)), (w, .inr (5, [.ref f1412_0, .int (nI ((κ w).2.2.1)), .int (nI f1412_2), .int (nI (k1 + 1)), .int 3, .int (nI k1), .int x1450, .int f1412_7, .int f1412_8, .ref f1412_9, .int (nI f1412_10), f1412_11, .int f1412_12, .int f1412_13]))] [w] _ _ := hB
                have hT : WT B0 D cs T κ _ := hT.close hB ⟨⟨1, _, rfl, ok_6 hw.1 ⟨_, _, _, _, _, _, _, _, _, _, _, _, _, rfl, (by omega), (by omega), (by omega), (by omega), (by omega), t1412_0, t1412_9, c1412_11, c1412_p2⟩⟩, trivial⟩
                have hF : Fr B0 [10] κ H0 _ := hF.close hB (fa_c (by simp [hw.2]) fa_n)
                have hL : OkL B0 _ := hB.2.2.2.2.2
                have hP : va_P D vwCl [(f1412_0, .inl (cs 1, 600, .inl g1413)), (w, .inr (5, [.ref f1412_0, .int (nI ((κ w).2.2.1)), .int (nI f1412_2), .int (nI (k1 + 1)), .int 3, .int (nI k1), .int x1450, .int f1412_7, .int f1412_8, .ref f1412_9, .int (nI f1412_10), f1412_11, .int f1412_12, .int f1412_13]))] _ := hB.1
                exact en_v hx hb hr hlocks hL (Nat.zero_le _) (Nat.zero_le _) dX5_step_273 (⟨hT, hF, fun v h9 => ⟨_, hP 1 _ rfl, by rw [FI.eq h9 hat1412 rfl (by decide) rfl]; rfl⟩⟩)
              · refine lv_aload_n hx hb dX5_step_196 rfl (lv_at hl 1 rfl) ?_
                refine lv_iconst (v := 2) hx hb dX5_step_197 (by decide) ?_
                refine b_put (D := D) (ci := 5) (v := .int 2) (ty := .int) (C := RX5) (T := TX5) (N := 14) hx hb hts iX5_step_5 tyX5 tyX5_ok nmX5 hown hN hB 1 rfl rfl 4 (by decide) (hts _ mX5_step_6) (fun _ h9 => h9) rfl (by decide +kernel) rfl rfl (Nat.le_of_ble_eq_true rfl) (.inr ⟨rfl, List.mem_of_getElem? (i := 0) rfl⟩) dX5_step_198 (fun H locs hB => ?_)
                have hB : Bx B0 D _ [(f1412_0, .inl (cs 1, 600, .inl g1413)), (w, .inr (5, [.ref f1412_0, .int (nI ((κ w).2.2.1)), .int (nI f1412_2), .int (nI k1), .int 2, .int (nI k1), .int 0, .int f1412_7, .int f1412_8, .ref f1412_9, .int (nI f1412_10), f1412_11, .int f1412_12, .int f1412_13]))] [w] _ _ := hB
                have hB : Bx B0 D _ [(f1412_0, .inl (cs 1, 600, .inl g1413)), (w, .inr (5, [.ref f1412_0, .int (nI ((κ w).2.2.1)), .int (nI f1412_2), .int (nI k1), .int 2, .int (nI k1), .int 0, .int f1412_7, .int f1412_8, .ref f1412_9, .int (nI f1412_10), f1412_11, .int f1412_12, .int f1412_13]))] [w] _ _ := hB.ms (by simp) (fa_c hb1412 fa_n)
                refine lp_m (α := Nat) (nL := 3) (fun a9 => 600 - a9) (fun a9 H9 l9 => (a9 ≤ 600) ∧ (Bx B0 D H0 [(f1412_0, .inl (cs 1, 600, .inl g1413)), (w, .inr (5, [.ref f1412_0, .int (nI ((κ w).2.2.1)), .int (nI f1412_2), .int (nI a9), .int 2, .int (nI k1), .int 0, .int f1412_7, .int f1412_8, .ref f1412_9, .int (nI f1412_10), f1412_11, .int f1412_12, .int f1412_13]))] [w] H9 l9)) (fun a9 => [(0, .ref w)]) ?_ k1 _ _ _ ⟨(by show (k1) ≤ 600; omega), hB⟩ (lv_sub hl [1] rfl)
                rintro k3 H locs ls ih1463 ⟨hk3, hB⟩ hl
                have hl : lv_has ls 3 [(0, .ref w)] := hl
                have hk3 : k3 ≤ 600 := hk3
                have hB : Bx B0 D _ [(f1412_0, .inl (cs 1, 600, .inl g1413)), (w, .inr (5, [.ref f1412_0, .int (nI ((κ w).2.2.1)), .int (nI f1412_2), .int (nI k3), .int 2, .int (nI k1), .int 0, .int f1412_7, .int f1412_8, .ref f1412_9, .int (nI f1412_10), f1412_11, .int f1412_12, .int f1412_13]))] [w] _ _ := hB
                refine lv_aload_n hx hb dX5_step_201 rfl (lv_at hl 0 rfl) ?_
                refine va_get (D := D) (ci := 5) (v := .int (nI k3)) (C := RX5) (T := TX5) (N := 14) hx hb hts iX5_step_5 hown hN.1 hB.1 1 rfl rfl 3 (by decide) (hts _ mX5_step_1) (fun _ h9 => h9) rfl dX5_step_202 ?_
                refine lv_aload_n hx hb dX5_step_205 rfl (lv_at hl 0 rfl) ?_
                refine va_get (D := D) (ci := 5) (v := .int (nI f1412_2)) (C := RX5) (T := TX5) (N := 14) hx hb hts iX5_step_5 hown hN.1 hB.1 1 rfl rfl 2 (by decide) (hts _ mX5_step_2) (fun _ h9 => h9) rfl dX5_step_206 ?_
                refine lv_icmp_ge (tgt := 273) hx hb dX5_step_209 (by decide) (fun c1464 => ?_) (fun c1464 => ?_)
                · have c1464 : f1412_2 ≤ k3 := (nI_leI (a := f1412_2) (b := k3) (by omega) (by omega)).mp c1464
                  have hT : WT B0 D cs T κ _ := hT.close hB ⟨⟨1, _, rfl, ok_6 hw.1 ⟨_, _, _, _, _, _, _, _, _, _, _, _, _, rfl, (by omega), (by omega), (by omega), (by omega), (by omega), t1412_0, t1412_9, c1412_11, c1412_p2⟩⟩, trivial⟩
                  have hF : Fr B0 [10] κ H0 _ := hF.close hB (fa_c (by simp [hw.2]) fa_n)
                  have hL : OkL B0 _ := hB.2.2.2.2.2
                  have hP : va_P D vwCl [(f1412_0, .inl (cs 1, 600, .inl g1413)), (w, .inr (5, [.ref f1412_0, .int (nI ((κ w).2.2.1)), .int (nI f1412_2), .int (nI k3), .int 2, .int (nI k1), .int 0, .int f1412_7, .int f1412_8, .ref f1412_9, .int (nI f1412_10), f1412_11, .int f1412_12, .int f1412_13]))] _ := hB.1
                  exact en_v hx hb hr hlocks hL (Nat.zero_le _) (Nat.zero_le _) dX5_step_273 (⟨hT, hF, fun v h9 => ⟨_, hP 1 _ rfl, by rw [FI.eq h9 hat1412 rfl (by decide) rfl]; rfl⟩⟩)
                · have c1464 : ¬ f1412_2 ≤ k3 := fun h9 => c1464 ((nI_leI (a := f1412_2) (b := k3) (by omega) (by omega)).mpr h9)
                  refine lv_aload_n hx hb dX5_step_212 rfl (lv_at hl 0 rfl) ?_
                  refine va_get (D := D) (ci := 5) (v := .ref f1412_0) (C := RX5) (T := TX5) (N := 14) hx hb hts iX5_step_5 hown hN.1 hB.1 1 rfl rfl 0 (by decide) (hts _ mX5_step_3) (fun _ h9 => h9) rfl dX5_step_213 ?_
                  refine lv_aload_n hx hb dX5_step_216 rfl (lv_at hl 0 rfl) ?_
                  refine va_get (D := D) (ci := 5) (v := .int (nI k3)) (C := RX5) (T := TX5) (N := 14) hx hb hts iX5_step_5 hown hN.1 hB.1 1 rfl rfl 3 (by decide) (hts _ mX5_step_1) (fun _ h9 => h9) rfl dX5_step_217 ?_
                  refine ld_b (v := (g1413 k3)) hx hb hN hB.1 0 rfl (vp_in_nI (n := k3) (N := 600) (by omega) (by omega)) (by rw [(show ((nI k3) : Int32).toNatClampNeg = k3 from nI_clamp (n := k3) (by omega))]) dX5_step_220 ?_
                  refine gn_i (fun x1465 => ?_)
                  refine lv_bipush (v := 97) hx hb dX5_step_221 (by decide) ?_
                  refine lv_icmp_lt (tgt := 273) hx hb dX5_step_223 (by decide) (fun c1466 => ?_) (fun c1466 => ?_)
                  · have hT : WT B0 D cs T κ _ := hT.close hB ⟨⟨1, _, rfl, ok_6 hw.1 ⟨_, _, _, _, _, _, _, _, _, _, _, _, _, rfl, (by omega), (by omega), (by omega), (by omega), (by omega), t1412_0, t1412_9, c1412_11, c1412_p2⟩⟩, trivial⟩
                    have hF : Fr B0 [10] κ H0 _ := hF.close hB (fa_c (by simp [hw.2]) fa_n)
                    have hL : OkL B0 _ := hB.2.2.2.2.2
                    have hP : va_P D vwCl [(f1412_0, .inl (cs 1, 600, .inl g1413)), (w, .inr (5, [.ref f1412_0, .int (nI ((κ w).2.2.1)), .int (nI f1412_2), .int (nI k3), .int 2, .int (nI k1), .int 0, .int f1412_7, .int f1412_8, .ref f1412_9, .int (nI f1412_10), f1412_11, .int f1412_12, .int f1412_13]))] _ := hB.1
                    exact en_v hx hb hr hlocks hL (Nat.zero_le _) (Nat.zero_le _) dX5_step_273 (⟨hT, hF, fun v h9 => ⟨_, hP 1 _ rfl, by rw [FI.eq h9 hat1412 rfl (by decide) rfl]; rfl⟩⟩)
                  · refine lv_aload_n hx hb dX5_step_226 rfl (lv_at hl 0 rfl) ?_
                    refine va_get (D := D) (ci := 5) (v := .ref f1412_0) (C := RX5) (T := TX5) (N := 14) hx hb hts iX5_step_5 hown hN.1 hB.1 1 rfl rfl 0 (by decide) (hts _ mX5_step_3) (fun _ h9 => h9) rfl dX5_step_227 ?_
                    refine lv_aload_n hx hb dX5_step_230 rfl (lv_at hl 0 rfl) ?_
                    refine va_get (D := D) (ci := 5) (v := .int (nI k3)) (C := RX5) (T := TX5) (N := 14) hx hb hts iX5_step_5 hown hN.1 hB.1 1 rfl rfl 3 (by decide) (hts _ mX5_step_1) (fun _ h9 => h9) rfl dX5_step_231 ?_
                    refine ld_b (v := (g1413 k3)) hx hb hN hB.1 0 rfl (vp_in_nI (n := k3) (N := 600) (by omega) (by omega)) (by rw [(show ((nI k3) : Int32).toNatClampNeg = k3 from nI_clamp (n := k3) (by omega))]) dX5_step_234 ?_
                    refine gn_i (fun x1467 => ?_)
                    refine lv_bipush (v := 122) hx hb dX5_step_235 (by decide) ?_
                    refine lv_icmp_gt (tgt := 273) hx hb dX5_step_237 (by decide) (fun c1468 => ?_) (fun c1468 => ?_)
                    · have hT : WT B0 D cs T κ _ := hT.close hB ⟨⟨1, _, rfl, ok_6 hw.1 ⟨_, _, _, _, _, _, _, _, _, _, _, _, _, rfl, (by omega), (by omega), (by omega), (by omega), (by omega), t1412_0, t1412_9, c1412_11, c1412_p2⟩⟩, trivial⟩
                      have hF : Fr B0 [10] κ H0 _ := hF.close hB (fa_c (by simp [hw.2]) fa_n)
                      have hL : OkL B0 _ := hB.2.2.2.2.2
                      have hP : va_P D vwCl [(f1412_0, .inl (cs 1, 600, .inl g1413)), (w, .inr (5, [.ref f1412_0, .int (nI ((κ w).2.2.1)), .int (nI f1412_2), .int (nI k3), .int 2, .int (nI k1), .int 0, .int f1412_7, .int f1412_8, .ref f1412_9, .int (nI f1412_10), f1412_11, .int f1412_12, .int f1412_13]))] _ := hB.1
                      exact en_v hx hb hr hlocks hL (Nat.zero_le _) (Nat.zero_le _) dX5_step_273 (⟨hT, hF, fun v h9 => ⟨_, hP 1 _ rfl, by rw [FI.eq h9 hat1412 rfl (by decide) rfl]; rfl⟩⟩)
                    · refine lv_aload_n hx hb dX5_step_240 rfl (lv_at hl 0 rfl) ?_
                      refine lv_dup hx hb dX5_step_241 rfl ?_
                      refine va_get (D := D) (ci := 5) (v := .int (nI k3)) (C := RX5) (T := TX5) (N := 14) hx hb hts iX5_step_5 hown hN.1 hB.1 1 rfl rfl 3 (by decide) (hts _ mX5_step_1) (fun _ h9 => h9) rfl dX5_step_242 ?_
                      refine lv_iconst (v := 1) hx hb dX5_step_245 (by decide) ?_
                      refine lv_iadd hx hb dX5_step_246 ?_
                      refine tp_i (nI (k3 + 1)) (nI_add k3 1) ?_
                      refine b_put (D := D) (ci := 5) (v := .int (nI (k3 + 1))) (ty := .int) (C := RX5) (T := TX5) (N := 14) hx hb hts iX5_step_5 tyX5 tyX5_ok nmX5 hown hN hB 1 rfl rfl 3 (by decide) (hts _ mX5_step_1) (fun _ h9 => h9) rfl (by decide +kernel) rfl rfl (Nat.le_of_ble_eq_true rfl) (.inr ⟨rfl, List.mem_of_getElem? (i := 0) rfl⟩) dX5_step_247 (fun H locs hB => ?_)
                      have hB : Bx B0 D _ [(f1412_0, .inl (cs 1, 600, .inl g1413)), (w, .inr (5, [.ref f1412_0, .int (nI ((κ w).2.2.1)), .int (nI f1412_2), .int (nI (k3 + 1)), .int 2, .int (nI k1), .int 0, .int f1412_7, .int f1412_8, .ref f1412_9, .int (nI f1412_10), f1412_11, .int f1412_12, .int f1412_13]))] [w] _ _ := hB
                      refine lv_goto (tgt := 201) hx hb dX5_step_250 (by decide) ?_
                      exact ih1463 (k3 + 1) _ _ _ (by show 600 - ((k3 + 1)) < 600 - k3; omega) ⟨(by show ((k3 + 1)) ≤ 600; omega), hB⟩ (lv_sub hl [0] rfl)
          · refine lv_aload_n hx hb dX5_step_90 rfl (lv_at hl 1 rfl) ?_
            refine lv_iconst (v := 1) hx hb dX5_step_91 (by decide) ?_
            refine b_put (D := D) (ci := 5) (v := .int 1) (ty := .int) (C := RX5) (T := TX5) (N := 14) hx hb hts iX5_step_5 tyX5 tyX5_ok nmX5 hown hN hB 1 rfl rfl 4 (by decide) (hts _ mX5_step_6) (fun _ h9 => h9) rfl (by decide +kernel) rfl rfl (Nat.le_of_ble_eq_true rfl) (.inr ⟨rfl, List.mem_of_getElem? (i := 0) rfl⟩) dX5_step_92 (fun H locs hB => ?_)
            have hB : Bx B0 D _ [(f1412_0, .inl (cs 1, 600, .inl g1413)), (w, .inr (5, [.ref f1412_0, .int (nI ((κ w).2.2.1)), .int (nI f1412_2), .int (nI k1), .int 1, .int (nI k1), .int 0, .int f1412_7, .int f1412_8, .ref f1412_9, .int (nI f1412_10), f1412_11, .int f1412_12, .int f1412_13]))] [w] _ _ := hB
            have hB : Bx B0 D _ [(f1412_0, .inl (cs 1, 600, .inl g1413)), (w, .inr (5, [.ref f1412_0, .int (nI ((κ w).2.2.1)), .int (nI f1412_2), .int (nI k1), .int 1, .int (nI k1), .int 0, .int f1412_7, .int f1412_8, .ref f1412_9, .int (nI f1412_10), f1412_11, .int f1412_12, .int f1412_13]))] [w] _ _ := hB.ms (by simp) (fa_c hb1412 fa_n)
            refine lp_m (α := Nat × Int32) (nL := 3) (fun a9 => 600 - a9.1) (fun a9 H9 l9 => (a9.1 ≤ 600) ∧ (Bx B0 D H0 [(f1412_0, .inl (cs 1, 600, .inl g1413)), (w, .inr (5, [.ref f1412_0, .int (nI ((κ w).2.2.1)), .int (nI f1412_2), .int (nI a9.1), .int 1, .int (nI k1), .int a9.2, .int f1412_7, .int f1412_8, .ref f1412_9, .int (nI f1412_10), f1412_11, .int f1412_12, .int f1412_13]))] [w] H9 l9)) (fun a9 => [(0, .ref w)]) ?_ (k1, 0) _ _ _ ⟨(by show (k1) ≤ 600; omega), hB⟩ (lv_sub hl [1] rfl)
            rintro ⟨k2, v2⟩ H locs ls ih1469 ⟨hk2, hB⟩ hl
            have hl : lv_has ls 3 [(0, .ref w)] := hl
            have hk2 : k2 ≤ 600 := hk2
            have hB : Bx B0 D _ [(f1412_0, .inl (cs 1, 600, .inl g1413)), (w, .inr (5, [.ref f1412_0, .int (nI ((κ w).2.2.1)), .int (nI f1412_2), .int (nI k2), .int 1, .int (nI k1), .int v2, .int f1412_7, .int f1412_8, .ref f1412_9, .int (nI f1412_10), f1412_11, .int f1412_12, .int f1412_13]))] [w] _ _ := hB
            refine lv_aload_n hx hb dX5_step_95 rfl (lv_at hl 0 rfl) ?_
            refine va_get (D := D) (ci := 5) (v := .int (nI k2)) (C := RX5) (T := TX5) (N := 14) hx hb hts iX5_step_5 hown hN.1 hB.1 1 rfl rfl 3 (by decide) (hts _ mX5_step_1) (fun _ h9 => h9) rfl dX5_step_96 ?_
            refine lv_aload_n hx hb dX5_step_99 rfl (lv_at hl 0 rfl) ?_
            refine va_get (D := D) (ci := 5) (v := .int (nI f1412_2)) (C := RX5) (T := TX5) (N := 14) hx hb hts iX5_step_5 hown hN.1 hB.1 1 rfl rfl 2 (by decide) (hts _ mX5_step_2) (fun _ h9 => h9) rfl dX5_step_100 ?_
            refine lv_icmp_ge (tgt := 273) hx hb dX5_step_103 (by decide) (fun c1470 => ?_) (fun c1470 => ?_)
            · have c1470 : f1412_2 ≤ k2 := (nI_leI (a := f1412_2) (b := k2) (by omega) (by omega)).mp c1470
              have hT : WT B0 D cs T κ _ := hT.close hB ⟨⟨1, _, rfl, ok_6 hw.1 ⟨_, _, _, _, _, _, _, _, _, _, _, _, _, rfl, (by omega), (by omega), (by omega), (by omega), (by omega), t1412_0, t1412_9, c1412_11, c1412_p2⟩⟩, trivial⟩
              have hF : Fr B0 [10] κ H0 _ := hF.close hB (fa_c (by simp [hw.2]) fa_n)
              have hL : OkL B0 _ := hB.2.2.2.2.2
              have hP : va_P D vwCl [(f1412_0, .inl (cs 1, 600, .inl g1413)), (w, .inr (5, [.ref f1412_0, .int (nI ((κ w).2.2.1)), .int (nI f1412_2), .int (nI k2), .int 1, .int (nI k1), .int v2, .int f1412_7, .int f1412_8, .ref f1412_9, .int (nI f1412_10), f1412_11, .int f1412_12, .int f1412_13]))] _ := hB.1
              exact en_v hx hb hr hlocks hL (Nat.zero_le _) (Nat.zero_le _) dX5_step_273 (⟨hT, hF, fun v h9 => ⟨_, hP 1 _ rfl, by rw [FI.eq h9 hat1412 rfl (by decide) rfl]; rfl⟩⟩)
            · have c1470 : ¬ f1412_2 ≤ k2 := fun h9 => c1470 ((nI_leI (a := f1412_2) (b := k2) (by omega) (by omega)).mpr h9)
              refine lv_aload_n hx hb dX5_step_106 rfl (lv_at hl 0 rfl) ?_
              refine va_get (D := D) (ci := 5) (v := .ref f1412_0) (C := RX5) (T := TX5) (N := 14) hx hb hts iX5_step_5 hown hN.1 hB.1 1 rfl rfl 0 (by decide) (hts _ mX5_step_3) (fun _ h9 => h9) rfl dX5_step_107 ?_
              refine lv_aload_n hx hb dX5_step_110 rfl (lv_at hl 0 rfl) ?_
              refine va_get (D := D) (ci := 5) (v := .int (nI k2)) (C := RX5) (T := TX5) (N := 14) hx hb hts iX5_step_5 hown hN.1 hB.1 1 rfl rfl 3 (by decide) (hts _ mX5_step_1) (fun _ h9 => h9) rfl dX5_step_111 ?_
              refine ld_b (v := (g1413 k2)) hx hb hN hB.1 0 rfl (vp_in_nI (n := k2) (N := 600) (by omega) (by omega)) (by rw [(show ((nI k2) : Int32).toNatClampNeg = k2 from nI_clamp (n := k2) (by omega))]) dX5_step_114 ?_
              refine gn_i (fun x1471 => ?_)
              refine lv_bipush (v := 48) hx hb dX5_step_115 (by decide) ?_
              refine lv_icmp_lt (tgt := 273) hx hb dX5_step_117 (by decide) (fun c1472 => ?_) (fun c1472 => ?_)
              · have hT : WT B0 D cs T κ _ := hT.close hB ⟨⟨1, _, rfl, ok_6 hw.1 ⟨_, _, _, _, _, _, _, _, _, _, _, _, _, rfl, (by omega), (by omega), (by omega), (by omega), (by omega), t1412_0, t1412_9, c1412_11, c1412_p2⟩⟩, trivial⟩
                have hF : Fr B0 [10] κ H0 _ := hF.close hB (fa_c (by simp [hw.2]) fa_n)
                have hL : OkL B0 _ := hB.2.2.2.2.2
                have hP : va_P D vwCl [(f1412_0, .inl (cs 1, 600, .inl g1413)), (w, .inr (5, [.ref f1412_0, .int (nI ((κ w).2.2.1)), .int (nI f1412_2), .int (nI k2), .int 1, .int (nI k1), .int v2, .int f1412_7, .int f1412_8, .ref f1412_9, .int (nI f1412_10), f1412_11, .int f1412_12, .int f1412_13]))] _ := hB.1
                exact en_v hx hb hr hlocks hL (Nat.zero_le _) (Nat.zero_le _) dX5_step_273 (⟨hT, hF, fun v h9 => ⟨_, hP 1 _ rfl, by rw [FI.eq h9 hat1412 rfl (by decide) rfl]; rfl⟩⟩)
              · refine lv_aload_n hx hb dX5_step_120 rfl (lv_at hl 0 rfl) ?_
                refine va_get (D := D) (ci := 5) (v := .ref f1412_0) (C := RX5) (T := TX5) (N := 14) hx hb hts iX5_step_5 hown hN.1 hB.1 1 rfl rfl 0 (by decide) (hts _ mX5_step_3) (fun _ h9 => h9) rfl dX5_step_121 ?_
                refine lv_aload_n hx hb dX5_step_124 rfl (lv_at hl 0 rfl) ?_
                refine va_get (D := D) (ci := 5) (v := .int (nI k2)) (C := RX5) (T := TX5) (N := 14) hx hb hts iX5_step_5 hown hN.1 hB.1 1 rfl rfl 3 (by decide) (hts _ mX5_step_1) (fun _ h9 => h9) rfl dX5_step_125 ?_
                refine ld_b (v := (g1413 k2)) hx hb hN hB.1 0 rfl (vp_in_nI (n := k2) (N := 600) (by omega) (by omega)) (by rw [(show ((nI k2) : Int32).toNatClampNeg = k2 from nI_clamp (n := k2) (by omega))]) dX5_step_128 ?_
                refine gn_i (fun x1473 => ?_)
                refine lv_bipush (v := 57) hx hb dX5_step_129 (by decide) ?_
                refine lv_icmp_gt (tgt := 273) hx hb dX5_step_131 (by decide) (fun c1474 => ?_) (fun c1474 => ?_)
                · have hT : WT B0 D cs T κ _ := hT.close hB ⟨⟨1, _, rfl, ok_6 hw.1 ⟨_, _, _, _, _, _, _, _, _, _, _, _, _, rfl, (by omega), (by omega), (by omega), (by omega), (by omega), t1412_0, t1412_9, c1412_11, c1412_p2⟩⟩, trivial⟩
                  have hF : Fr B0 [10] κ H0 _ := hF.close hB (fa_c (by simp [hw.2]) fa_n)
                  have hL : OkL B0 _ := hB.2.2.2.2.2
                  have hP : va_P D vwCl [(f1412_0, .inl (cs 1, 600, .inl g1413)), (w, .inr (5, [.ref f1412_0, .int (nI ((κ w).2.2.1)), .int (nI f1412_2), .int (nI k2), .int 1, .int (nI k1), .int v2, .int f1412_7, .int f1412_8, .ref f1412_9, .int (nI f1412_10), f1412_11, .int f1412_12, .int f1412_13]))] _ := hB.1
                  exact en_v hx hb hr hlocks hL (Nat.zero_le _) (Nat.zero_le _) dX5_step_273 (⟨hT, hF, fun v h9 => ⟨_, hP 1 _ rfl, by rw [FI.eq h9 hat1412 rfl (by decide) rfl]; rfl⟩⟩)
                · refine lv_bipush (v := 10) hx hb dX5_step_134 (by decide) ?_
                  refine lv_aload_n hx hb dX5_step_136 rfl (lv_at hl 0 rfl) ?_
                  refine va_get (D := D) (ci := 5) (v := .int v2) (C := RX5) (T := TX5) (N := 14) hx hb hts iX5_step_5 hown hN.1 hB.1 1 rfl rfl 6 (by decide) (hts _ mX5_step_5) (fun _ h9 => h9) rfl dX5_step_137 ?_
                  refine lv_imul hx hb dX5_step_140 ?_
                  refine gn_i (fun x1475 => ?_)
                  refine lv_aload_n hx hb dX5_step_141 rfl (lv_at hl 0 rfl) ?_
                  refine va_get (D := D) (ci := 5) (v := .ref f1412_0) (C := RX5) (T := TX5) (N := 14) hx hb hts iX5_step_5 hown hN.1 hB.1 1 rfl rfl 0 (by decide) (hts _ mX5_step_3) (fun _ h9 => h9) rfl dX5_step_142 ?_
                  refine lv_aload_n hx hb dX5_step_145 rfl (lv_at hl 0 rfl) ?_
                  refine va_get (D := D) (ci := 5) (v := .int (nI k2)) (C := RX5) (T := TX5) (N := 14) hx hb hts iX5_step_5 hown hN.1 hB.1 1 rfl rfl 3 (by decide) (hts _ mX5_step_1) (fun _ h9 => h9) rfl dX5_step_146 ?_
                  refine ld_b (v := (g1413 k2)) hx hb hN hB.1 0 rfl (vp_in_nI (n := k2) (N := 600) (by omega) (by omega)) (by rw [(show ((nI k2) : Int32).toNatClampNeg = k2 from nI_clamp (n := k2) (by omega))]) dX5_step_149 ?_
                  refine gn_i (fun x1476 => ?_)
                  refine lv_iadd hx hb dX5_step_150 ?_
                  refine gn_i (fun x1477 => ?_)
                  refine lv_bipush (v := 48) hx hb dX5_step_151 (by decide) ?_
                  refine lv_isub hx hb dX5_step_153 ?_
                  refine gn_i (fun x1478 => ?_)
                  refine lv_istore_n (lv' := [(2, .int x1478), (0, .ref w)]) hx hb dX5_step_154 rfl hl (by decide) rfl (fun ls hl => ?_)
                  refine lv_aload_n hx hb dX5_step_155 rfl (lv_at hl 1 rfl) ?_
                  refine lv_iload_n hx hb dX5_step_156 rfl (lv_at hl 0 rfl) ?_
                  refine lv_ldc (v := 1000000) hx hb hown (hts _ mX5_step_7) dX5_step_157 ?_
                  refine lv_icmp_ge (tgt := 166) hx hb dX5_step_159 (by decide) (fun c1479 => ?_) (fun c1479 => ?_)
                  · refine lv_ldc (v := 1000000) hx hb hown (hts _ mX5_step_7) dX5_step_166 ?_
                    refine b_put (D := D) (ci := 5) (v := .int 1000000) (ty := .int) (C := RX5) (T := TX5) (N := 14) hx hb hts iX5_step_5 tyX5 tyX5_ok nmX5 hown hN hB 1 rfl rfl 6 (by decide) (hts _ mX5_step_5) (fun _ h9 => h9) rfl (by decide +kernel) rfl rfl (Nat.le_of_ble_eq_true rfl) (.inr ⟨rfl, List.mem_of_getElem? (i := 0) rfl⟩) dX5_step_168 (fun H locs hB => ?_)
                    have hB : Bx B0 D _ [(f1412_0, .inl (cs 1, 600, .inl g1413)), (w, .inr (5, [.ref f1412_0, .int (nI ((κ w).2.2.1)), .int (nI f1412_2), .int (nI k2), .int 1, .int (nI k1), .int 1000000, .int f1412_7, .int f1412_8, .ref f1412_9, .int (nI f1412_10), f1412_11, .int f1412_12, .int f1412_13]))] [w] _ _ := hB
                    refine lv_aload_n hx hb dX5_step_171 rfl (lv_at hl 1 rfl) ?_
                    refine lv_dup hx hb dX5_step_172 rfl ?_
                    refine va_get (D := D) (ci := 5) (v := .int (nI k2)) (C := RX5) (T := TX5) (N := 14) hx hb hts iX5_step_5 hown hN.1 hB.1 1 rfl rfl 3 (by decide) (hts _ mX5_step_1) (fun _ h9 => h9) rfl dX5_step_173 ?_
                    refine lv_iconst (v := 1) hx hb dX5_step_176 (by decide) ?_
                    refine lv_iadd hx hb dX5_step_177 ?_
                    refine tp_i (nI (k2 + 1)) (nI_add k2 1) ?_
                    refine b_put (D := D) (ci := 5) (v := .int (nI (k2 + 1))) (ty := .int) (C := RX5) (T := TX5) (N := 14) hx hb hts iX5_step_5 tyX5 tyX5_ok nmX5 hown hN hB 1 rfl rfl 3 (by decide) (hts _ mX5_step_1) (fun _ h9 => h9) rfl (by decide +kernel) rfl rfl (Nat.le_of_ble_eq_true rfl) (.inr ⟨rfl, List.mem_of_getElem? (i := 0) rfl⟩) dX5_step_178 (fun H locs hB => ?_)
                    have hB : Bx B0 D _ [(f1412_0, .inl (cs 1, 600, .inl g1413)), (w, .inr (5, [.ref f1412_0, .int (nI ((κ w).2.2.1)), .int (nI f1412_2), .int (nI (k2 + 1)), .int 1, .int (nI k1), .int 1000000, .int f1412_7, .int f1412_8, .ref f1412_9, .int (nI f1412_10), f1412_11, .int f1412_12, .int f1412_13]))] [w] _ _ := hB
                    refine lv_goto (tgt := 95) hx hb dX5_step_181 (by decide) ?_
                    exact ih1469 ((k2 + 1), 1000000) _ _ _ (by show 600 - ((k2 + 1)) < 600 - k2; omega) ⟨(by show ((k2 + 1)) ≤ 600; omega), hB⟩ (lv_sub hl [1] rfl)
                  · refine lv_iload_n hx hb dX5_step_162 rfl (lv_at hl 0 rfl) ?_
                    refine lv_goto (tgt := 168) hx hb dX5_step_163 (by decide) ?_
                    refine b_put (D := D) (ci := 5) (v := .int x1478) (ty := .int) (C := RX5) (T := TX5) (N := 14) hx hb hts iX5_step_5 tyX5 tyX5_ok nmX5 hown hN hB 1 rfl rfl 6 (by decide) (hts _ mX5_step_5) (fun _ h9 => h9) rfl (by decide +kernel) rfl rfl (Nat.le_of_ble_eq_true rfl) (.inr ⟨rfl, List.mem_of_getElem? (i := 0) rfl⟩) dX5_step_168 (fun H locs hB => ?_)
                    have hB : Bx B0 D _ [(f1412_0, .inl (cs 1, 600, .inl g1413)), (w, .inr (5, [.ref f1412_0, .int (nI ((κ w).2.2.1)), .int (nI f1412_2), .int (nI k2), .int 1, .int (nI k1), .int x1478, .int f1412_7, .int f1412_8, .ref f1412_9, .int (nI f1412_10), f1412_11, .int f1412_12, .int f1412_13]))] [w] _ _ := hB
                    refine lv_aload_n hx hb dX5_step_171 rfl (lv_at hl 1 rfl) ?_
                    refine lv_dup hx hb dX5_step_172 rfl ?_
                    refine va_get (D := D) (ci := 5) (v := .int (nI k2)) (C := RX5) (T := TX5) (N := 14) hx hb hts iX5_step_5 hown hN.1 hB.1 1 rfl rfl 3 (by decide) (hts _ mX5_step_1) (fun _ h9 => h9) rfl dX5_step_173 ?_
                    refine lv_iconst (v := 1) hx hb dX5_step_176 (by decide) ?_
                    refine lv_iadd hx hb dX5_step_177 ?_
                    refine tp_i (nI (k2 + 1)) (nI_add k2 1) ?_
                    refine b_put (D := D) (ci := 5) (v := .int (nI (k2 + 1))) (ty := .int) (C := RX5) (T := TX5) (N := 14) hx hb hts iX5_step_5 tyX5 tyX5_ok nmX5 hown hN hB 1 rfl rfl 3 (by decide) (hts _ mX5_step_1) (fun _ h9 => h9) rfl (by decide +kernel) rfl rfl (Nat.le_of_ble_eq_true rfl) (.inr ⟨rfl, List.mem_of_getElem? (i := 0) rfl⟩) dX5_step_178 (fun H locs hB => ?_)
                    have hB : Bx B0 D _ [(f1412_0, .inl (cs 1, 600, .inl g1413)), (w, .inr (5, [.ref f1412_0, .int (nI ((κ w).2.2.1)), .int (nI f1412_2), .int (nI (k2 + 1)), .int 1, .int (nI k1), .int x1478, .int f1412_7, .int f1412_8, .ref f1412_9, .int (nI f1412_10), f1412_11, .int f1412_12, .int f1412_13]))] [w] _ _ := hB
                    refine lv_goto (tgt := 95) hx hb dX5_step_181 (by decide) ?_
                    exact ih1469 ((k2 + 1), x1478) _ _ _ (by show 600 - ((k2 + 1)) < 600 - k2; omega) ⟨(by show ((k2 + 1)) ≤ 600; omega), hB⟩ (lv_sub hl [1] rfl)
      · have c1449 : ¬ k1 < f1412_2 := fun h9 => c1449 ((nI_ltI (a := k1) (b := f1412_2) (by omega) (by omega)).mpr h9)
        refine lv_aload_n hx hb dX5_step_62 rfl (lv_at hl 0 rfl) ?_
        refine lv_iconst (v := 0) hx hb dX5_step_63 (by decide) ?_
        refine b_put (D := D) (ci := 5) (v := .int 0) (ty := .int) (C := RX5) (T := TX5) (N := 14) hx hb hts iX5_step_5 tyX5 tyX5_ok nmX5 hown hN hB 1 rfl rfl 4 (by decide) (hts _ mX5_step_6) (fun _ h9 => h9) rfl (by decide +kernel) rfl rfl (Nat.le_of_ble_eq_true rfl) (.inr ⟨rfl, List.mem_of_getElem? (i := 0) rfl⟩) dX5_step_64 (fun H locs hB => ?_)
        have hB : Bx B0 D _ [(f1412_0, .inl (cs 1, 600, .inl g1413)), (w, .inr (5, [.ref f1412_0, .int (nI ((κ w).2.2.1)), .int (nI f1412_2), .int (nI k1), .int 0, .int (nI k1), .int 0, .int f1412_7, .int f1412_8, .ref f1412_9, .int (nI f1412_10), f1412_11, .int f1412_12, .int f1412_13]))] [w] _ _ := hB
        have hT : WT B0 D cs T κ _ := hT.close hB ⟨⟨1, _, rfl, ok_6 hw.1 ⟨_, _, _, _, _, _, _, _, _, _, _, _, _, rfl, (by omega), (by omega), (by omega), (by omega), (by omega), t1412_0, t1412_9, c1412_11, c1412_p2⟩⟩, trivial⟩
        have hF : Fr B0 [10] κ H0 _ := hF.close hB (fa_c (by simp [hw.2]) fa_n)
        have hL : OkL B0 _ := hB.2.2.2.2.2
        have hP : va_P D vwCl [(f1412_0, .inl (cs 1, 600, .inl g1413)), (w, .inr (5, [.ref f1412_0, .int (nI ((κ w).2.2.1)), .int (nI f1412_2), .int (nI k1), .int 0, .int (nI k1), .int 0, .int f1412_7, .int f1412_8, .ref f1412_9, .int (nI f1412_10), f1412_11, .int f1412_12, .int f1412_13]))] _ := hB.1
        exact en_v hx hb hr hlocks hL (Nat.zero_le _) (Nat.zero_le _) dX5_step_67 (⟨hT, hF, fun v h9 => ⟨_, hP 1 _ rfl, by rw [FI.eq h9 hat1412 rfl (by decide) rfl]; rfl⟩⟩)
    · refine lv_aload_n hx hb dX5_step_25 rfl (lv_at hl 0 rfl) ?_
      refine lv_dup hx hb dX5_step_26 rfl ?_
      refine va_get (D := D) (ci := 5) (v := .int (nI k1)) (C := RX5) (T := TX5) (N := 14) hx hb hts iX5_step_5 hown hN.1 hB.1 1 rfl rfl 3 (by decide) (hts _ mX5_step_1) (fun _ h9 => h9) rfl dX5_step_27 ?_
      refine lv_iconst (v := 1) hx hb dX5_step_30 (by decide) ?_
      refine lv_iadd hx hb dX5_step_31 ?_
      refine tp_i (nI (k1 + 1)) (nI_add k1 1) ?_
      refine b_put (D := D) (ci := 5) (v := .int (nI (k1 + 1))) (ty := .int) (C := RX5) (T := TX5) (N := 14) hx hb hts iX5_step_5 tyX5 tyX5_ok nmX5 hown hN hB 1 rfl rfl 3 (by decide) (hts _ mX5_step_1) (fun _ h9 => h9) rfl (by decide +kernel) rfl rfl (Nat.le_of_ble_eq_true rfl) (.inr ⟨rfl, List.mem_of_getElem? (i := 0) rfl⟩) dX5_step_32 (fun H locs hB => ?_)
      have hB : Bx B0 D _ [(f1412_0, .inl (cs 1, 600, .inl g1413)), (w, .inr (5, [.ref f1412_0, .int (nI ((κ w).2.2.1)), .int (nI f1412_2), .int (nI (k1 + 1)), .int f1412_4, .int (nI f1412_5), .int f1412_6, .int f1412_7, .int f1412_8, .ref f1412_9, .int (nI f1412_10), f1412_11, .int f1412_12, .int f1412_13]))] [w] _ _ := hB
      refine lv_goto (tgt := 0) hx hb dX5_step_35 (by decide) ?_
      exact ih1414 (k1 + 1) _ _ _ (by show 600 - ((k1 + 1)) < 600 - k1; omega) ⟨(by show ((k1 + 1)) ≤ 600; omega), hB⟩ (lv_sub hl [0] rfl)
theorem mX5_putCode_1 : (.fieldLink RX5 38 "OneBeat$Reader" "codeCount" "I" : Cond) ∈ wsX5_putCode := List.mem_of_getElem? (i := 1) (by decide +kernel)
theorem iX5_putCode_5 : ∀ w ∈ wsX50, w ∈ wsX5_putCode := fun w h => List.mem_of_mem_drop (List.mem_of_mem_take ((show wsX50 = (wsX5_putCode.drop 3).take 14 by decide +kernel) ▸ h))
theorem mX5_putCode_2 : (.fieldLink RX5 15 "OneBeat$Reader" "codes" "[I" : Cond) ∈ wsX5_putCode := List.mem_of_getElem? (i := 2) (by decide +kernel)
set_option maxHeartbeats 4000000 in
set_option maxRecDepth 100000 in
theorem c_X5_putCode {l : Launch} {D : va_G} {cs : Nat → ClassId} {B0 T : Nat} {κ : KM} {H0 : Heap} (hT : WT B0 D cs T κ H0) {w : Nat} (hw : T2 κ w 6 10) {x : Int32} : KC l yX5_putCode wsX5_putCode 0 0 0 0 D cs B0 H0 [.ref w, .int x] (Qv (fun H => WT B0 D cs T κ H ∧ Fr B0 [10] κ H0 H)) := by
  refine KC.of cX5_putCode 2 none (by decide) rfl (Nat.le_of_ble_eq_true rfl) ?_
  intro p e s m below meth c ls hx hb hr hml hown hts hlocks hin hN hE hH0 hl
  have hown : s.vm.findClass RX5 = some m.cls := hown
  have hl : lv_has ls 2 [(0, .ref w), (1, .int x)] := hl
  have hL : OkL B0 [] := OkL.nil
  have hF : Fr B0 [10] κ H0 H0 := Fr.rf
  refine lv_aload_n hx hb dX5_putCode_0 rfl (lv_at hl 0 rfl) ?_
  obtain ⟨hb1480, e1480, hat1480, hk1480⟩ := hT.o6 hw.1
  obtain ⟨f1480_0, f1480_2, f1480_3, f1480_4, f1480_5, f1480_6, f1480_7, f1480_8, f1480_9, f1480_10, f1480_11, f1480_12, f1480_13, rfl, c1480_1, c1480_2, c1480_3, c1480_5, c1480_10, t1480_0, t1480_9, c1480_11, c1480_p2⟩ := hk1480
  have hP : va_P D vwCl [(w, .inr (5, [.ref f1480_0, .int (nI ((κ w).2.2.1)), .int (nI f1480_2), .int (nI f1480_3), .int f1480_4, .int (nI f1480_5), .int f1480_6, .int f1480_7, .int f1480_8, .ref f1480_9, .int (nI f1480_10), f1480_11, .int f1480_12, .int f1480_13]))] _ := va_P.cons hat1480 va_P.nil
  refine va_get (D := D) (ci := 5) (v := .int (nI f1480_10)) (C := RX5) (T := TX5) (N := 14) hx hb hts iX5_putCode_5 hown hN.1 hP 0 rfl rfl 10 (by decide) (hts _ mX5_putCode_1) (fun _ h9 => h9) rfl dX5_putCode_1 ?_
  refine lv_aload_n hx hb dX5_putCode_4 rfl (lv_at hl 0 rfl) ?_
  refine va_get (D := D) (ci := 5) (v := .ref f1480_9) (C := RX5) (T := TX5) (N := 14) hx hb hts iX5_putCode_5 hown hN.1 hP 0 rfl rfl 9 (by decide) (hts _ mX5_putCode_2) (fun _ h9 => h9) rfl dX5_putCode_5 ?_
  obtain ⟨hb1481, e1481, hat1481, hk1481⟩ := hT.o17 t1480_9.1
  obtain ⟨g1481, rfl⟩ := hk1481
  have hP : va_P D vwCl [(f1480_9, .inl (cs 0, 600, .inl g1481)), (w, .inr (5, [.ref f1480_0, .int (nI ((κ w).2.2.1)), .int (nI f1480_2), .int (nI f1480_3), .int f1480_4, .int (nI f1480_5), .int f1480_6, .int f1480_7, .int f1480_8, .ref f1480_9, .int (nI f1480_10), f1480_11, .int f1480_12, .int f1480_13]))] _ := va_P.cons hat1481 hP
  refine va_alen (v := 600) hx hb hN.1 hP 0 0 rfl rfl rfl dX5_putCode_8 ?_
  refine lv_icmp_ge (tgt := 32) hx hb dX5_putCode_9 (by decide) (fun c1482 => ?_) (fun c1482 => ?_)
  · have c1482 : 600 ≤ f1480_10 := (nI_leI (a := 600) (b := f1480_10) (by omega) (by omega)).mp c1482
    exact en_v hx hb hr hlocks hL (Nat.zero_le _) (Nat.zero_le _) dX5_putCode_32 (⟨hT, hF⟩)
  · have c1482 : ¬ 600 ≤ f1480_10 := fun h9 => c1482 ((nI_leI (a := 600) (b := f1480_10) (by omega) (by omega)).mpr h9)
    refine lv_aload_n hx hb dX5_putCode_12 rfl (lv_at hl 0 rfl) ?_
    refine va_get (D := D) (ci := 5) (v := .ref f1480_9) (C := RX5) (T := TX5) (N := 14) hx hb hts iX5_putCode_5 hown hN.1 hP 1 rfl rfl 9 (by decide) (hts _ mX5_putCode_2) (fun _ h9 => h9) rfl dX5_putCode_13 ?_
    refine lv_aload_n hx hb dX5_putCode_16 rfl (lv_at hl 0 rfl) ?_
    refine va_get (D := D) (ci := 5) (v := .int (nI f1480_10)) (C := RX5) (T := TX5) (N := 14) hx hb hts iX5_putCode_5 hown hN.1 hP 1 rfl rfl 10 (by decide) (hts _ mX5_putCode_1) (fun _ h9 => h9) rfl dX5_putCode_17 ?_
    refine lv_iload_n hx hb dX5_putCode_20 rfl (lv_at hl 1 rfl) ?_
    have hB : Bx B0 D _ [(f1480_9, .inl (cs 0, 600, .inl g1481)), (w, .inr (5, [.ref f1480_0, .int (nI ((κ w).2.2.1)), .int (nI f1480_2), .int (nI f1480_3), .int f1480_4, .int (nI f1480_5), .int f1480_6, .int f1480_7, .int f1480_8, .ref f1480_9, .int (nI f1480_10), f1480_11, .int f1480_12, .int f1480_13]))] [] _ _ := Bx.of (fun a => (κ a).1) hL hP (fa_c hb1481 (fa_c hb1480 fa_n)) (by simp only [List.map_cons, List.map_nil, t1480_9.1, hw.1]; decide)
    refine b_i hx hb hN hB 0 rfl (vp_in_nI (n := f1480_10) (N := 600) (by omega) (by omega)) (.inl rfl) dX5_putCode_21 (fun H locs hB => ?_)
    rw [(show ((nI f1480_10) : Int32).toNatClampNeg = f1480_10 from nI_clamp (n := f1480_10) (by omega))] at hB
    have hB : Bx B0 D _ [(f1480_9, .inl (cs 0, 600, .inl (upd g1481 f1480_10 x))), (w, .inr (5, [.ref f1480_0, .int (nI ((κ w).2.2.1)), .int (nI f1480_2), .int (nI f1480_3), .int f1480_4, .int (nI f1480_5), .int f1480_6, .int f1480_7, .int f1480_8, .ref f1480_9, .int (nI f1480_10), f1480_11, .int f1480_12, .int f1480_13]))] [f1480_9] _ _ := hB
    generalize (upd g1481 f1480_10 x) = g1483 at hB
    refine lv_aload_n hx hb dX5_putCode_22 rfl (lv_at hl 0 rfl) ?_
    refine lv_dup hx hb dX5_putCode_23 rfl ?_
    refine va_get (D := D) (ci := 5) (v := .int (nI f1480_10)) (C := RX5) (T := TX5) (N := 14) hx hb hts iX5_putCode_5 hown hN.1 hB.1 1 rfl rfl 10 (by decide) (hts _ mX5_putCode_1) (fun _ h9 => h9) rfl dX5_putCode_24 ?_
    refine lv_iconst (v := 1) hx hb dX5_putCode_27 (by decide) ?_
    refine lv_iadd hx hb dX5_putCode_28 ?_
    refine tp_i (nI (f1480_10 + 1)) (nI_add f1480_10 1) ?_
    refine b_put (D := D) (ci := 5) (v := .int (nI (f1480_10 + 1))) (ty := .int) (C := RX5) (T := TX5) (N := 14) hx hb hts iX5_putCode_5 tyX5 tyX5_ok nmX5 hown hN hB 1 rfl rfl 10 (by decide) (hts _ mX5_putCode_1) (fun _ h9 => h9) rfl (by decide +kernel) rfl rfl (Nat.le_of_ble_eq_true rfl) (.inl rfl) dX5_putCode_29 (fun H locs hB => ?_)
    have hB : Bx B0 D _ [(f1480_9, .inl (cs 0, 600, .inl g1483)), (w, .inr (5, [.ref f1480_0, .int (nI ((κ w).2.2.1)), .int (nI f1480_2), .int (nI f1480_3), .int f1480_4, .int (nI f1480_5), .int f1480_6, .int f1480_7, .int f1480_8, .ref f1480_9, .int (nI (f1480_10 + 1)), f1480_11, .int f1480_12, .int f1480_13]))] [w, f1480_9] _ _ := hB
    have hT : WT B0 D cs T κ _ := hT.close hB ⟨⟨1, _, rfl, ok_6 hw.1 ⟨_, _, _, _, _, _, _, _, _, _, _, _, _, rfl, (by omega), (by omega), (by omega), (by omega), (by omega), t1480_0, t1480_9, c1480_11, c1480_p2⟩⟩, ⟨⟨0, _, rfl, ok_17 t1480_9.1 ⟨_, rfl⟩⟩, trivial⟩⟩
    have hF : Fr B0 [10] κ H0 _ := hF.close hB (fa_c (by simp [hw.2]) (fa_c (by simp [t1480_9.2]) fa_n))
    have hL : OkL B0 _ := hB.2.2.2.2.2
    have hP : va_P D vwCl [(f1480_9, .inl (cs 0, 600, .inl g1483)), (w, .inr (5, [.ref f1480_0, .int (nI ((κ w).2.2.1)), .int (nI f1480_2), .int (nI f1480_3), .int f1480_4, .int (nI f1480_5), .int f1480_6, .int f1480_7, .int f1480_8, .ref f1480_9, .int (nI (f1480_10 + 1)), f1480_11, .int f1480_12, .int f1480_13]))] _ := hB.1
    exact en_v hx hb hr hlocks hL (Nat.zero_le _) (Nat.zero_le _) dX5_putCode_32 (⟨hT, hF⟩)
theorem hdX5_isWord_v : yX5_isWord.cls = RX5 ∧ yX5_isWord.cls ≠ "java/lang/invoke/MethodHandle" ∧ yX5_isWord.cls ≠ "java/lang/invoke/VarHandle" ∧ (parseMethodDescriptor yX5_isWord.desc).map (fun d => d.parameters.length) = some 1 := by decide +kernel
theorem mX5_takeWord_1 : (.fieldLink RX5 124 "OneBeat$Reader" "start" "I" : Cond) ∈ wsX5_takeWord := List.mem_of_getElem? (i := 1) (by decide +kernel)
theorem iX5_takeWord_5 : ∀ w ∈ wsX50, w ∈ wsX5_takeWord := fun w h => List.mem_of_mem_drop (List.mem_of_mem_take ((show wsX50 = (wsX5_takeWord.drop 72).take 14 by decide +kernel) ▸ h))
theorem hdX5_fail_v : yX5_fail.cls = RX5 ∧ yX5_fail.cls ≠ "java/lang/invoke/MethodHandle" ∧ yX5_fail.cls ≠ "java/lang/invoke/VarHandle" ∧ (parseMethodDescriptor yX5_fail.desc).map (fun d => d.parameters.length) = some 2 := by decide +kernel
theorem hdX5_step_v : yX5_step.cls = RX5 ∧ yX5_step.cls ≠ "java/lang/invoke/MethodHandle" ∧ yX5_step.cls ≠ "java/lang/invoke/VarHandle" ∧ (parseMethodDescriptor yX5_step.desc).map (fun d => d.parameters.length) = some 0 := by decide +kernel
set_option maxHeartbeats 4000000 in
set_option maxRecDepth 100000 in
theorem c_X5_takeWord {l : Launch} {D : va_G} {cs : Nat → ClassId} {B0 T : Nat} {κ : KM} {H0 : Heap} (hT : WT B0 D cs T κ H0) {w : Nat} (hw : T2 κ w 6 10) {i : Nat} (hi9 : i ∈ nW) : KC l yX5_takeWord wsX5_takeWord 5 107 0 0 D cs B0 H0 [.ref w, .ref (cs (100 + i))] (Qi (fun r H => WT B0 D cs T κ H ∧ Fr B0 [10] κ H0 H ∧ (r = 0 ∨ r = 1))) := by
  refine KC.of cX5_takeWord 2 (some .boolean) (by decide) rfl (Nat.le_of_ble_eq_true rfl) ?_
  intro p e s m below meth c ls hx hb hr hml hown hts hlocks hin hN hE hH0 hl
  have hown : s.vm.findClass RX5 = some m.cls := hown
  have hl : lv_has ls 2 [(0, .ref w), (1, .ref (cs (100 + i)))] := hl
  have hL : OkL B0 [] := OkL.nil
  have hF : Fr B0 [10] κ H0 H0 := Fr.rf
  refine lv_aload_n hx hb dX5_takeWord_0 rfl (lv_at hl 0 rfl) ?_
  refine lv_aload_n hx hb dX5_takeWord_1 rfl (lv_at hl 1 rfl) ?_
  refine cv_i (As := [.ref (cs (100 + i))]) (rest := []) (b := w) ⟨hx, hb, hml, hown, hts⟩ (c_X5_isWord hT (w := w) hw (i := i) hi9) (cwV 1 hts gX5_takeWord_X5_isWord rfl rfl rfl hdX5_isWord_v ⟨Nat.le_of_ble_eq_true rfl, Nat.le_of_ble_eq_true rfl⟩) hN hE hL (rcv6 hN hT hw.1) rfl rfl hl.1 (Nat.le_of_ble_eq_true rfl) dX5_takeWord_2 (Nat.zero_le _) (Nat.zero_le _) (fun r1484 H1 locs hL hqr1484 => ?_)
  obtain ⟨h9, hqr1484⟩ := hqr1484; replace h9 := h9.symm; subst h9
  rcases hqr1484 with rfl | rfl
  · refine lv_if_ne (tgt := 19) hx hb dX5_takeWord_5 (by decide) (fun c9 => absurd (by decide) c9) (fun _ => ?_)
    refine lv_aload_n hx hb dX5_takeWord_8 rfl (lv_at hl 0 rfl) ?_
    refine lv_bipush (v := (-2)) hx hb dX5_takeWord_9 (by decide) ?_
    refine lv_aload_n hx hb dX5_takeWord_11 rfl (lv_at hl 0 rfl) ?_
    obtain ⟨hb1485, e1485, hat1485, hk1485⟩ := hT.o6 hw.1
    obtain ⟨f1485_0, f1485_2, f1485_3, f1485_4, f1485_5, f1485_6, f1485_7, f1485_8, f1485_9, f1485_10, f1485_11, f1485_12, f1485_13, rfl, c1485_1, c1485_2, c1485_3, c1485_5, c1485_10, t1485_0, t1485_9, c1485_11, c1485_p2⟩ := hk1485
    have hP : va_P D vwCl [(w, .inr (5, [.ref f1485_0, .int (nI ((κ w).2.2.1)), .int (nI f1485_2), .int (nI f1485_3), .int f1485_4, .int (nI f1485_5), .int f1485_6, .int f1485_7, .int f1485_8, .ref f1485_9, .int (nI f1485_10), f1485_11, .int f1485_12, .int f1485_13]))] _ := va_P.cons hat1485 va_P.nil
    refine va_get (D := D) (ci := 5) (v := .int (nI f1485_5)) (C := RX5) (T := TX5) (N := 14) hx hb hts iX5_takeWord_5 hown hN.1 hP 0 rfl rfl 5 (by decide) (hts _ mX5_takeWord_1) (fun _ h9 => h9) rfl dX5_takeWord_12 ?_
    refine cv_i (As := [.int (-2), .int (nI f1485_5)]) (rest := []) (b := w) ⟨hx, hb, hml, hown, hts⟩ (c_X5_fail hT (w := w) hw (x := (-2)) (y := (nI f1485_5))) (cwV 2 hts gX5_takeWord_X5_fail rfl rfl rfl hdX5_fail_v ⟨Nat.le_of_ble_eq_true rfl, Nat.le_of_ble_eq_true rfl⟩) hN hE hL (rcv6 hN hT hw.1) rfl rfl hl.1 (Nat.le_of_ble_eq_true rfl) dX5_takeWord_15 (Nat.zero_le _) (Nat.zero_le _) (fun r1486 H1 locs hL hqr1486 => ?_)
    obtain ⟨hT1, hF1, hqr1486⟩ := hqr1486
    have hF := hF.tr (hF1.mono (by simp))
    have hT := hT1
    obtain rfl := hqr1486
    exact en_i hx hb hr hlocks hL rfl (Nat.zero_le _) (Nat.zero_le _) dX5_takeWord_18 (⟨hT, hF, Or.inl rfl⟩)
  · refine lv_if_ne (tgt := 19) hx hb dX5_takeWord_5 (by decide) (fun _ => ?_) (fun c9 => absurd c9 (by decide))
    refine lv_aload_n hx hb dX5_takeWord_19 rfl (lv_at hl 0 rfl) ?_
    refine cv_v (As := []) (rest := []) (b := w) ⟨hx, hb, hml, hown, hts⟩ (c_X5_step hT (w := w) hw) (cwV 0 hts gX5_takeWord_X5_step rfl rfl rfl hdX5_step_v ⟨Nat.le_of_ble_eq_true rfl, Nat.le_of_ble_eq_true rfl⟩) hN hE hL (rcv6 hN hT hw.1) rfl rfl hl.1 (Nat.le_of_ble_eq_true rfl) dX5_takeWord_20 (Nat.zero_le _) (Nat.zero_le _) (fun H1 locs hL hqr1487 => ?_)
    obtain ⟨hT1, hF1, hqr1487⟩ := hqr1487
    have hF := hF.tr (hF1.mono (by simp))
    have hT := hT1
    have f1488 := hqr1487
    refine lv_iconst (v := 1) hx hb dX5_takeWord_23 (by decide) ?_
    exact en_i hx hb hr hlocks hL rfl (Nat.zero_le _) (Nat.zero_le _) dX5_takeWord_24 (⟨hT, hF, Or.inr rfl⟩)
theorem hdX5_isMark_v : yX5_isMark.cls = RX5 ∧ yX5_isMark.cls ≠ "java/lang/invoke/MethodHandle" ∧ yX5_isMark.cls ≠ "java/lang/invoke/VarHandle" ∧ (parseMethodDescriptor yX5_isMark.desc).map (fun d => d.parameters.length) = some 1 := by decide +kernel
theorem mX5_takeMark_1 : (.fieldLink RX5 124 "OneBeat$Reader" "start" "I" : Cond) ∈ wsX5_takeMark := List.mem_of_getElem? (i := 1) (by decide +kernel)
theorem iX5_takeMark_5 : ∀ w ∈ wsX50, w ∈ wsX5_takeMark := fun w h => List.mem_of_mem_drop (List.mem_of_mem_take ((show wsX50 = (wsX5_takeMark.drop 23).take 14 by decide +kernel) ▸ h))
set_option maxHeartbeats 4000000 in
set_option maxRecDepth 100000 in
theorem c_X5_takeMark {l : Launch} {D : va_G} {cs : Nat → ClassId} {B0 T : Nat} {κ : KM} {H0 : Heap} (hT : WT B0 D cs T κ H0) {w : Nat} (hw : T2 κ w 6 10) {x : Int32} : KC l yX5_takeMark wsX5_takeMark 1 22 0 0 D cs B0 H0 [.ref w, .int x] (Qi (fun r H => WT B0 D cs T κ H ∧ Fr B0 [10] κ H0 H ∧ (r = 0 ∨ r = 1))) := by
  refine KC.of cX5_takeMark 2 (some .boolean) (by decide) rfl (Nat.le_of_ble_eq_true rfl) ?_
  intro p e s m below meth c ls hx hb hr hml hown hts hlocks hin hN hE hH0 hl
  have hown : s.vm.findClass RX5 = some m.cls := hown
  have hl : lv_has ls 2 [(0, .ref w), (1, .int x)] := hl
  have hL : OkL B0 [] := OkL.nil
  have hF : Fr B0 [10] κ H0 H0 := Fr.rf
  refine lv_aload_n hx hb dX5_takeMark_0 rfl (lv_at hl 0 rfl) ?_
  refine lv_iload_n hx hb dX5_takeMark_1 rfl (lv_at hl 1 rfl) ?_
  refine cv_i (As := [.int x]) (rest := []) (b := w) ⟨hx, hb, hml, hown, hts⟩ (c_X5_isMark hT (w := w) hw (x := x)) (cwV 1 hts gX5_takeMark_X5_isMark rfl rfl rfl hdX5_isMark_v ⟨Nat.le_of_ble_eq_true rfl, Nat.le_of_ble_eq_true rfl⟩) hN hE hL (rcv6 hN hT hw.1) rfl rfl hl.1 (Nat.le_of_ble_eq_true rfl) dX5_takeMark_2 (Nat.zero_le _) (Nat.zero_le _) (fun r1489 H1 locs hL hqr1489 => ?_)
  obtain ⟨h9, hqr1489⟩ := hqr1489; replace h9 := h9.symm; subst h9
  rcases hqr1489 with rfl | rfl
  · refine lv_if_ne (tgt := 19) hx hb dX5_takeMark_5 (by decide) (fun c9 => absurd (by decide) c9) (fun _ => ?_)
    refine lv_aload_n hx hb dX5_takeMark_8 rfl (lv_at hl 0 rfl) ?_
    refine lv_bipush (v := (-2)) hx hb dX5_takeMark_9 (by decide) ?_
    refine lv_aload_n hx hb dX5_takeMark_11 rfl (lv_at hl 0 rfl) ?_
    obtain ⟨hb1490, e1490, hat1490, hk1490⟩ := hT.o6 hw.1
    obtain ⟨f1490_0, f1490_2, f1490_3, f1490_4, f1490_5, f1490_6, f1490_7, f1490_8, f1490_9, f1490_10, f1490_11, f1490_12, f1490_13, rfl, c1490_1, c1490_2, c1490_3, c1490_5, c1490_10, t1490_0, t1490_9, c1490_11, c1490_p2⟩ := hk1490
    have hP : va_P D vwCl [(w, .inr (5, [.ref f1490_0, .int (nI ((κ w).2.2.1)), .int (nI f1490_2), .int (nI f1490_3), .int f1490_4, .int (nI f1490_5), .int f1490_6, .int f1490_7, .int f1490_8, .ref f1490_9, .int (nI f1490_10), f1490_11, .int f1490_12, .int f1490_13]))] _ := va_P.cons hat1490 va_P.nil
    refine va_get (D := D) (ci := 5) (v := .int (nI f1490_5)) (C := RX5) (T := TX5) (N := 14) hx hb hts iX5_takeMark_5 hown hN.1 hP 0 rfl rfl 5 (by decide) (hts _ mX5_takeMark_1) (fun _ h9 => h9) rfl dX5_takeMark_12 ?_
    refine cv_i (As := [.int (-2), .int (nI f1490_5)]) (rest := []) (b := w) ⟨hx, hb, hml, hown, hts⟩ (c_X5_fail hT (w := w) hw (x := (-2)) (y := (nI f1490_5))) (cwV 2 hts gX5_takeMark_X5_fail rfl rfl rfl hdX5_fail_v ⟨Nat.le_of_ble_eq_true rfl, Nat.le_of_ble_eq_true rfl⟩) hN hE hL (rcv6 hN hT hw.1) rfl rfl hl.1 (Nat.le_of_ble_eq_true rfl) dX5_takeMark_15 (Nat.zero_le _) (Nat.zero_le _) (fun r1491 H1 locs hL hqr1491 => ?_)
    obtain ⟨hT1, hF1, hqr1491⟩ := hqr1491
    have hF := hF.tr (hF1.mono (by simp))
    have hT := hT1
    obtain rfl := hqr1491
    exact en_i hx hb hr hlocks hL rfl (Nat.zero_le _) (Nat.zero_le _) dX5_takeMark_18 (⟨hT, hF, Or.inl rfl⟩)
  · refine lv_if_ne (tgt := 19) hx hb dX5_takeMark_5 (by decide) (fun _ => ?_) (fun c9 => absurd c9 (by decide))
    refine lv_aload_n hx hb dX5_takeMark_19 rfl (lv_at hl 0 rfl) ?_
    refine cv_v (As := []) (rest := []) (b := w) ⟨hx, hb, hml, hown, hts⟩ (c_X5_step hT (w := w) hw) (cwV 0 hts gX5_takeMark_X5_step rfl rfl rfl hdX5_step_v ⟨Nat.le_of_ble_eq_true rfl, Nat.le_of_ble_eq_true rfl⟩) hN hE hL (rcv6 hN hT hw.1) rfl rfl hl.1 (Nat.le_of_ble_eq_true rfl) dX5_takeMark_20 (Nat.zero_le _) (Nat.zero_le _) (fun H1 locs hL hqr1492 => ?_)
    obtain ⟨hT1, hF1, hqr1492⟩ := hqr1492
    have hF := hF.tr (hF1.mono (by simp))
    have hT := hT1
    have f1493 := hqr1492
    refine lv_iconst (v := 1) hx hb dX5_takeMark_23 (by decide) ?_
    exact en_i hx hb hr hlocks hL rfl (Nat.zero_le _) (Nat.zero_le _) dX5_takeMark_24 (⟨hT, hF, Or.inr rfl⟩)
theorem mX5_takeNumber_1 : (.fieldLink RX5 73 "OneBeat$Reader" "kind" "I" : Cond) ∈ wsX5_takeNumber := List.mem_of_getElem? (i := 1) (by decide +kernel)
theorem iX5_takeNumber_5 : ∀ w ∈ wsX50, w ∈ wsX5_takeNumber := fun w h => List.mem_of_mem_drop (List.mem_of_mem_take ((show wsX50 = (wsX5_takeNumber.drop 21).take 14 by decide +kernel) ▸ h))
theorem mX5_takeNumber_3 : (.fieldLink RX5 175 "OneBeat$Reader" "value" "I" : Cond) ∈ wsX5_takeNumber := List.mem_of_getElem? (i := 3) (by decide +kernel)
theorem mX5_takeNumber_2 : (.fieldLink RX5 124 "OneBeat$Reader" "start" "I" : Cond) ∈ wsX5_takeNumber := List.mem_of_getElem? (i := 2) (by decide +kernel)
theorem mX5_takeNumber_4 : (.fieldLink RX5 59 "OneBeat$Reader" "taken" "I" : Cond) ∈ wsX5_takeNumber := List.mem_of_getElem? (i := 4) (by decide +kernel)
theorem mX5_takeNumber_5 : (.fieldLink RX5 135 "OneBeat$Reader" "takenAt" "I" : Cond) ∈ wsX5_takeNumber := List.mem_of_getElem? (i := 5) (by decide +kernel)
set_option maxHeartbeats 4000000 in
set_option maxRecDepth 100000 in
theorem c_X5_takeNumber {l : Launch} {D : va_G} {cs : Nat → ClassId} {B0 T : Nat} {κ : KM} {H0 : Heap} (hT : WT B0 D cs T κ H0) {w : Nat} (hw : T2 κ w 6 10) {x : Int32} {y : Int32} : KC l yX5_takeNumber wsX5_takeNumber 1 22 0 0 D cs B0 H0 [.ref w, .int x, .int y] (Qi (fun r H => WT B0 D cs T κ H ∧ Fr B0 [10] κ H0 H ∧ (r = 0 ∨ (r = 1 ∧ ∃ v : Int32, ¬ v < x ∧ ¬ y < v ∧ FI D w 5 7 (.int v) H)))) := by
  refine KC.of cX5_takeNumber 3 (some .boolean) (by decide) rfl (Nat.le_of_ble_eq_true rfl) ?_
  intro p e s m below meth c ls hx hb hr hml hown hts hlocks hin hN hE hH0 hl
  have hown : s.vm.findClass RX5 = some m.cls := hown
  have hl : lv_has ls 3 [(0, .ref w), (1, .int x), (2, .int y)] := hl
  have hL : OkL B0 [] := OkL.nil
  have hF : Fr B0 [10] κ H0 H0 := Fr.rf
  refine lv_aload_n hx hb dX5_takeNumber_0 rfl (lv_at hl 0 rfl) ?_
  obtain ⟨hb1494, e1494, hat1494, hk1494⟩ := hT.o6 hw.1
  obtain ⟨f1494_0, f1494_2, f1494_3, f1494_4, f1494_5, f1494_6, f1494_7, f1494_8, f1494_9, f1494_10, f1494_11, f1494_12, f1494_13, rfl, c1494_1, c1494_2, c1494_3, c1494_5, c1494_10, t1494_0, t1494_9, c1494_11, c1494_p2⟩ := hk1494
  have hP : va_P D vwCl [(w, .inr (5, [.ref f1494_0, .int (nI ((κ w).2.2.1)), .int (nI f1494_2), .int (nI f1494_3), .int f1494_4, .int (nI f1494_5), .int f1494_6, .int f1494_7, .int f1494_8, .ref f1494_9, .int (nI f1494_10), f1494_11, .int f1494_12, .int f1494_13]))] _ := va_P.cons hat1494 va_P.nil
  refine va_get (D := D) (ci := 5) (v := .int f1494_4) (C := RX5) (T := TX5) (N := 14) hx hb hts iX5_takeNumber_5 hown hN.1 hP 0 rfl rfl 4 (by decide) (hts _ mX5_takeNumber_1) (fun _ h9 => h9) rfl dX5_takeNumber_1 ?_
  refine lv_iconst (v := 1) hx hb dX5_takeNumber_4 (by decide) ?_
  refine lv_icmp_eq (tgt := 19) hx hb dX5_takeNumber_5 (by decide) (fun c1495 => ?_) (fun c1495 => ?_)
  · refine lv_aload_n hx hb dX5_takeNumber_19 rfl (lv_at hl 0 rfl) ?_
    refine va_get (D := D) (ci := 5) (v := .int f1494_6) (C := RX5) (T := TX5) (N := 14) hx hb hts iX5_takeNumber_5 hown hN.1 hP 0 rfl rfl 6 (by decide) (hts _ mX5_takeNumber_3) (fun _ h9 => h9) rfl dX5_takeNumber_20 ?_
    refine lv_iload_n hx hb dX5_takeNumber_23 rfl (lv_at hl 1 rfl) ?_
    refine lv_icmp_lt (tgt := 35) hx hb dX5_takeNumber_24 (by decide) (fun c1496 => ?_) (fun c1496 => ?_)
    · refine lv_aload_n hx hb dX5_takeNumber_35 rfl (lv_at hl 0 rfl) ?_
      refine lv_bipush (v := (-3)) hx hb dX5_takeNumber_36 (by decide) ?_
      refine lv_aload_n hx hb dX5_takeNumber_38 rfl (lv_at hl 0 rfl) ?_
      refine va_get (D := D) (ci := 5) (v := .int (nI f1494_5)) (C := RX5) (T := TX5) (N := 14) hx hb hts iX5_takeNumber_5 hown hN.1 hP 0 rfl rfl 5 (by decide) (hts _ mX5_takeNumber_2) (fun _ h9 => h9) rfl dX5_takeNumber_39 ?_
      refine cv_i (As := [.int (-3), .int (nI f1494_5)]) (rest := []) (b := w) ⟨hx, hb, hml, hown, hts⟩ (c_X5_fail hT (w := w) hw (x := (-3)) (y := (nI f1494_5))) (cwV 2 hts gX5_takeNumber_X5_fail rfl rfl rfl hdX5_fail_v ⟨Nat.le_of_ble_eq_true rfl, Nat.le_of_ble_eq_true rfl⟩) hN hE hL (rcv6 hN hT hw.1) rfl rfl hl.1 (Nat.le_of_ble_eq_true rfl) dX5_takeNumber_42 (Nat.zero_le _) (Nat.zero_le _) (fun r1497 H1 locs hL hqr1497 => ?_)
      obtain ⟨hT1, hF1, hqr1497⟩ := hqr1497
      have hF := hF.tr (hF1.mono (by simp))
      have hT := hT1
      obtain rfl := hqr1497
      exact en_i hx hb hr hlocks hL rfl (Nat.zero_le _) (Nat.zero_le _) dX5_takeNumber_45 (⟨hT, hF, Or.inl rfl⟩)
    · refine lv_aload_n hx hb dX5_takeNumber_27 rfl (lv_at hl 0 rfl) ?_
      refine va_get (D := D) (ci := 5) (v := .int f1494_6) (C := RX5) (T := TX5) (N := 14) hx hb hts iX5_takeNumber_5 hown hN.1 hP 0 rfl rfl 6 (by decide) (hts _ mX5_takeNumber_3) (fun _ h9 => h9) rfl dX5_takeNumber_28 ?_
      refine lv_iload_n hx hb dX5_takeNumber_31 rfl (lv_at hl 2 rfl) ?_
      refine lv_icmp_le (tgt := 46) hx hb dX5_takeNumber_32 (by decide) (fun c1498 => ?_) (fun c1498 => ?_)
      · refine lv_aload_n hx hb dX5_takeNumber_46 rfl (lv_at hl 0 rfl) ?_
        refine lv_aload_n hx hb dX5_takeNumber_47 rfl (lv_at hl 0 rfl) ?_
        refine va_get (D := D) (ci := 5) (v := .int f1494_6) (C := RX5) (T := TX5) (N := 14) hx hb hts iX5_takeNumber_5 hown hN.1 hP 0 rfl rfl 6 (by decide) (hts _ mX5_takeNumber_3) (fun _ h9 => h9) rfl dX5_takeNumber_48 ?_
        have hB : Bx B0 D _ [(w, .inr (5, [.ref f1494_0, .int (nI ((κ w).2.2.1)), .int (nI f1494_2), .int (nI f1494_3), .int f1494_4, .int (nI f1494_5), .int f1494_6, .int f1494_7, .int f1494_8, .ref f1494_9, .int (nI f1494_10), f1494_11, .int f1494_12, .int f1494_13]))] [] _ _ := Bx.of (fun a => (κ a).1) hL hP (fa_c hb1494 fa_n) (by simp only [List.map_cons, List.map_nil, hw.1]; decide)
        refine b_put (D := D) (ci := 5) (v := .int f1494_6) (ty := .int) (C := RX5) (T := TX5) (N := 14) hx hb hts iX5_takeNumber_5 tyX5 tyX5_ok nmX5 hown hN hB 0 rfl rfl 7 (by decide) (hts _ mX5_takeNumber_4) (fun _ h9 => h9) rfl (by decide +kernel) rfl rfl (Nat.le_of_ble_eq_true rfl) (.inl rfl) dX5_takeNumber_51 (fun H locs hB => ?_)
        have hB : Bx B0 D _ [(w, .inr (5, [.ref f1494_0, .int (nI ((κ w).2.2.1)), .int (nI f1494_2), .int (nI f1494_3), .int f1494_4, .int (nI f1494_5), .int f1494_6, .int f1494_6, .int f1494_8, .ref f1494_9, .int (nI f1494_10), f1494_11, .int f1494_12, .int f1494_13]))] [w] _ _ := hB
        refine lv_aload_n hx hb dX5_takeNumber_54 rfl (lv_at hl 0 rfl) ?_
        refine lv_aload_n hx hb dX5_takeNumber_55 rfl (lv_at hl 0 rfl) ?_
        refine va_get (D := D) (ci := 5) (v := .int (nI f1494_5)) (C := RX5) (T := TX5) (N := 14) hx hb hts iX5_takeNumber_5 hown hN.1 hB.1 0 rfl rfl 5 (by decide) (hts _ mX5_takeNumber_2) (fun _ h9 => h9) rfl dX5_takeNumber_56 ?_
        refine b_put (D := D) (ci := 5) (v := .int (nI f1494_5)) (ty := .int) (C := RX5) (T := TX5) (N := 14) hx hb hts iX5_takeNumber_5 tyX5 tyX5_ok nmX5 hown hN hB 0 rfl rfl 8 (by decide) (hts _ mX5_takeNumber_5) (fun _ h9 => h9) rfl (by decide +kernel) rfl rfl (Nat.le_of_ble_eq_true rfl) (.inr ⟨rfl, List.mem_of_getElem? (i := 0) rfl⟩) dX5_takeNumber_59 (fun H locs hB => ?_)
        have hB : Bx B0 D _ [(w, .inr (5, [.ref f1494_0, .int (nI ((κ w).2.2.1)), .int (nI f1494_2), .int (nI f1494_3), .int f1494_4, .int (nI f1494_5), .int f1494_6, .int f1494_6, .int (nI f1494_5), .ref f1494_9, .int (nI f1494_10), f1494_11, .int f1494_12, .int f1494_13]))] [w] _ _ := hB
        have hT : WT B0 D cs T κ _ := hT.close hB ⟨⟨0, _, rfl, ok_6 hw.1 ⟨_, _, _, _, _, _, _, _, _, _, _, _, _, rfl, (by omega), (by omega), (by omega), (by omega), (by omega), t1494_0, t1494_9, c1494_11, c1494_p2⟩⟩, trivial⟩
        have hF : Fr B0 [10] κ H0 _ := hF.close hB (fa_c (by simp [hw.2]) fa_n)
        have hL : OkL B0 _ := hB.2.2.2.2.2
        have hP : va_P D vwCl [(w, .inr (5, [.ref f1494_0, .int (nI ((κ w).2.2.1)), .int (nI f1494_2), .int (nI f1494_3), .int f1494_4, .int (nI f1494_5), .int f1494_6, .int f1494_6, .int (nI f1494_5), .ref f1494_9, .int (nI f1494_10), f1494_11, .int f1494_12, .int f1494_13]))] _ := hB.1
        have hfi : FI D w 5 7 (.int f1494_6) _ := ⟨_, hP 0 _ rfl, rfl⟩
        refine lv_aload_n hx hb dX5_takeNumber_62 rfl (lv_at hl 0 rfl) ?_
        refine cv_v (As := []) (rest := []) (b := w) ⟨hx, hb, hml, hown, hts⟩ (c_X5_step hT (w := w) hw) (cwV 0 hts gX5_takeNumber_X5_step rfl rfl rfl hdX5_step_v ⟨Nat.le_of_ble_eq_true rfl, Nat.le_of_ble_eq_true rfl⟩) hN hE hL (rcv6 hN hT hw.1) rfl rfl hl.1 (Nat.le_of_ble_eq_true rfl) dX5_takeNumber_63 (Nat.zero_le _) (Nat.zero_le _) (fun H1 locs hL hqr1499 => ?_)
        obtain ⟨hT1, hF1, hqr1499⟩ := hqr1499
        have hF := hF.tr (hF1.mono (by simp))
        have hT := hT1
        have f1500 := hqr1499
        have hfi := f1500 _ hfi
        refine lv_iconst (v := 1) hx hb dX5_takeNumber_66 (by decide) ?_
        exact en_i hx hb hr hlocks hL rfl (Nat.zero_le _) (Nat.zero_le _) dX5_takeNumber_67 (⟨hT, hF, Or.inr ⟨rfl, f1494_6, c1496, (Int32.not_lt.mpr c1498), hfi⟩⟩)
      · refine lv_aload_n hx hb dX5_takeNumber_35 rfl (lv_at hl 0 rfl) ?_
        refine lv_bipush (v := (-3)) hx hb dX5_takeNumber_36 (by decide) ?_
        refine lv_aload_n hx hb dX5_takeNumber_38 rfl (lv_at hl 0 rfl) ?_
        refine va_get (D := D) (ci := 5) (v := .int (nI f1494_5)) (C := RX5) (T := TX5) (N := 14) hx hb hts iX5_takeNumber_5 hown hN.1 hP 0 rfl rfl 5 (by decide) (hts _ mX5_takeNumber_2) (fun _ h9 => h9) rfl dX5_takeNumber_39 ?_
        refine cv_i (As := [.int (-3), .int (nI f1494_5)]) (rest := []) (b := w) ⟨hx, hb, hml, hown, hts⟩ (c_X5_fail hT (w := w) hw (x := (-3)) (y := (nI f1494_5))) (cwV 2 hts gX5_takeNumber_X5_fail rfl rfl rfl hdX5_fail_v ⟨Nat.le_of_ble_eq_true rfl, Nat.le_of_ble_eq_true rfl⟩) hN hE hL (rcv6 hN hT hw.1) rfl rfl hl.1 (Nat.le_of_ble_eq_true rfl) dX5_takeNumber_42 (Nat.zero_le _) (Nat.zero_le _) (fun r1501 H1 locs hL hqr1501 => ?_)
        obtain ⟨hT1, hF1, hqr1501⟩ := hqr1501
        have hF := hF.tr (hF1.mono (by simp))
        have hT := hT1
        obtain rfl := hqr1501
        exact en_i hx hb hr hlocks hL rfl (Nat.zero_le _) (Nat.zero_le _) dX5_takeNumber_45 (⟨hT, hF, Or.inl rfl⟩)
  · refine lv_aload_n hx hb dX5_takeNumber_8 rfl (lv_at hl 0 rfl) ?_
    refine lv_bipush (v := (-2)) hx hb dX5_takeNumber_9 (by decide) ?_
    refine lv_aload_n hx hb dX5_takeNumber_11 rfl (lv_at hl 0 rfl) ?_
    refine va_get (D := D) (ci := 5) (v := .int (nI f1494_5)) (C := RX5) (T := TX5) (N := 14) hx hb hts iX5_takeNumber_5 hown hN.1 hP 0 rfl rfl 5 (by decide) (hts _ mX5_takeNumber_2) (fun _ h9 => h9) rfl dX5_takeNumber_12 ?_
    refine cv_i (As := [.int (-2), .int (nI f1494_5)]) (rest := []) (b := w) ⟨hx, hb, hml, hown, hts⟩ (c_X5_fail hT (w := w) hw (x := (-2)) (y := (nI f1494_5))) (cwV 2 hts gX5_takeNumber_X5_fail rfl rfl rfl hdX5_fail_v ⟨Nat.le_of_ble_eq_true rfl, Nat.le_of_ble_eq_true rfl⟩) hN hE hL (rcv6 hN hT hw.1) rfl rfl hl.1 (Nat.le_of_ble_eq_true rfl) dX5_takeNumber_15 (Nat.zero_le _) (Nat.zero_le _) (fun r1502 H1 locs hL hqr1502 => ?_)
    obtain ⟨hT1, hF1, hqr1502⟩ := hqr1502
    have hF := hF.tr (hF1.mono (by simp))
    have hT := hT1
    obtain rfl := hqr1502
    exact en_i hx hb hr hlocks hL rfl (Nat.zero_le _) (Nat.zero_le _) dX5_takeNumber_18 (⟨hT, hF, Or.inl rfl⟩)
theorem mX5_takeSigned_1 : (.fieldLink RX5 124 "OneBeat$Reader" "start" "I" : Cond) ∈ wsX5_takeSigned := List.mem_of_getElem? (i := 1) (by decide +kernel)
theorem iX5_takeSigned_5 : ∀ w ∈ wsX50, w ∈ wsX5_takeSigned := fun w h => List.mem_of_mem_drop (List.mem_of_mem_take ((show wsX50 = (wsX5_takeSigned.drop 24).take 14 by decide +kernel) ▸ h))
theorem mX5_takeSigned_2 : (.fieldLink RX5 73 "OneBeat$Reader" "kind" "I" : Cond) ∈ wsX5_takeSigned := List.mem_of_getElem? (i := 2) (by decide +kernel)
theorem mX5_takeSigned_3 : (.fieldLink RX5 175 "OneBeat$Reader" "value" "I" : Cond) ∈ wsX5_takeSigned := List.mem_of_getElem? (i := 3) (by decide +kernel)
theorem mX5_takeSigned_4 : (.fieldLink RX5 59 "OneBeat$Reader" "taken" "I" : Cond) ∈ wsX5_takeSigned := List.mem_of_getElem? (i := 4) (by decide +kernel)
set_option maxHeartbeats 4000000 in
set_option maxRecDepth 100000 in
theorem c_X5_takeSigned {l : Launch} {D : va_G} {cs : Nat → ClassId} {B0 T : Nat} {κ : KM} {H0 : Heap} (hT : WT B0 D cs T κ H0) {w : Nat} (hw : T2 κ w 6 10) {x : Int32} : KC l yX5_takeSigned wsX5_takeSigned 1 22 0 0 D cs B0 H0 [.ref w, .int x] (Qi (fun r H => WT B0 D cs T κ H ∧ Fr B0 [10] κ H0 H ∧ (r = 0 ∨ r = 1))) := by
  refine KC.of cX5_takeSigned 4 (some .boolean) (by decide) rfl (Nat.le_of_ble_eq_true rfl) ?_
  intro p e s m below meth c ls hx hb hr hml hown hts hlocks hin hN hE hH0 hl
  have hown : s.vm.findClass RX5 = some m.cls := hown
  have hl : lv_has ls 4 [(0, .ref w), (1, .int x)] := hl
  have hL : OkL B0 [] := OkL.nil
  have hF : Fr B0 [10] κ H0 H0 := Fr.rf
  refine lv_aload_n hx hb dX5_takeSigned_0 rfl (lv_at hl 0 rfl) ?_
  refine lv_bipush (v := 45) hx hb dX5_takeSigned_1 (by decide) ?_
  refine cv_i (As := [.int 45]) (rest := []) (b := w) ⟨hx, hb, hml, hown, hts⟩ (c_X5_isMark hT (w := w) hw (x := 45)) (cwV 1 hts gX5_takeSigned_X5_isMark rfl rfl rfl hdX5_isMark_v ⟨Nat.le_of_ble_eq_true rfl, Nat.le_of_ble_eq_true rfl⟩) hN hE hL (rcv6 hN hT hw.1) rfl rfl hl.1 (Nat.le_of_ble_eq_true rfl) dX5_takeSigned_3 (Nat.zero_le _) (Nat.zero_le _) (fun r1503 H1 locs hL hqr1503 => ?_)
  obtain ⟨h9, hqr1503⟩ := hqr1503; replace h9 := h9.symm; subst h9
  rcases hqr1503 with rfl | rfl
  · refine lv_istore_n (lv' := [(2, .int 0), (0, .ref w), (1, .int x)]) hx hb dX5_takeSigned_6 rfl hl (by decide) rfl (fun ls hl => ?_)
    refine lv_aload_n hx hb dX5_takeSigned_7 rfl (lv_at hl 1 rfl) ?_
    obtain ⟨hb1504, e1504, hat1504, hk1504⟩ := hT.o6 hw.1
    obtain ⟨f1504_0, f1504_2, f1504_3, f1504_4, f1504_5, f1504_6, f1504_7, f1504_8, f1504_9, f1504_10, f1504_11, f1504_12, f1504_13, rfl, c1504_1, c1504_2, c1504_3, c1504_5, c1504_10, t1504_0, t1504_9, c1504_11, c1504_p2⟩ := hk1504
    have hP : va_P D vwCl [(w, .inr (5, [.ref f1504_0, .int (nI ((κ w).2.2.1)), .int (nI f1504_2), .int (nI f1504_3), .int f1504_4, .int (nI f1504_5), .int f1504_6, .int f1504_7, .int f1504_8, .ref f1504_9, .int (nI f1504_10), f1504_11, .int f1504_12, .int f1504_13]))] _ := va_P.cons hat1504 va_P.nil
    refine va_get (D := D) (ci := 5) (v := .int (nI f1504_5)) (C := RX5) (T := TX5) (N := 14) hx hb hts iX5_takeSigned_5 hown hN.1 hP 0 rfl rfl 5 (by decide) (hts _ mX5_takeSigned_1) (fun _ h9 => h9) rfl dX5_takeSigned_8 ?_
    refine lv_istore_n (lv' := [(3, .int (nI f1504_5)), (2, .int 0), (0, .ref w), (1, .int x)]) hx hb dX5_takeSigned_11 rfl hl (by decide) rfl (fun ls hl => ?_)
    refine lv_iload_n hx hb dX5_takeSigned_12 rfl (lv_at hl 1 rfl) ?_
    refine lv_if_eq (tgt := 20) hx hb dX5_takeSigned_13 (by decide) (fun _ => ?_) (fun c9 => absurd (by decide) c9)
    refine lv_aload_n hx hb dX5_takeSigned_20 rfl (lv_at hl 2 rfl) ?_
    refine va_get (D := D) (ci := 5) (v := .int f1504_4) (C := RX5) (T := TX5) (N := 14) hx hb hts iX5_takeSigned_5 hown hN.1 hP 0 rfl rfl 4 (by decide) (hts _ mX5_takeSigned_2) (fun _ h9 => h9) rfl dX5_takeSigned_21 ?_
    refine lv_iconst (v := 1) hx hb dX5_takeSigned_24 (by decide) ?_
    refine lv_icmp_eq (tgt := 39) hx hb dX5_takeSigned_25 (by decide) (fun c1505 => ?_) (fun c1505 => ?_)
    · refine lv_aload_n hx hb dX5_takeSigned_39 rfl (lv_at hl 2 rfl) ?_
      refine va_get (D := D) (ci := 5) (v := .int f1504_6) (C := RX5) (T := TX5) (N := 14) hx hb hts iX5_takeSigned_5 hown hN.1 hP 0 rfl rfl 6 (by decide) (hts _ mX5_takeSigned_3) (fun _ h9 => h9) rfl dX5_takeSigned_40 ?_
      refine lv_iload_n hx hb dX5_takeSigned_43 rfl (lv_at hl 3 rfl) ?_
      refine lv_icmp_le (tgt := 55) hx hb dX5_takeSigned_44 (by decide) (fun c1506 => ?_) (fun c1506 => ?_)
      · refine lv_aload_n hx hb dX5_takeSigned_55 rfl (lv_at hl 2 rfl) ?_
        refine lv_iload_n hx hb dX5_takeSigned_56 rfl (lv_at hl 1 rfl) ?_
        refine lv_if_eq (tgt := 68) hx hb dX5_takeSigned_57 (by decide) (fun _ => ?_) (fun c9 => absurd (by decide) c9)
        refine lv_aload_n hx hb dX5_takeSigned_68 rfl (lv_at hl 2 rfl) ?_
        refine va_get (D := D) (ci := 5) (v := .int f1504_6) (C := RX5) (T := TX5) (N := 14) hx hb hts iX5_takeSigned_5 hown hN.1 hP 0 rfl rfl 6 (by decide) (hts _ mX5_takeSigned_3) (fun _ h9 => h9) rfl dX5_takeSigned_69 ?_
        have hB : Bx B0 D _ [(w, .inr (5, [.ref f1504_0, .int (nI ((κ w).2.2.1)), .int (nI f1504_2), .int (nI f1504_3), .int f1504_4, .int (nI f1504_5), .int f1504_6, .int f1504_7, .int f1504_8, .ref f1504_9, .int (nI f1504_10), f1504_11, .int f1504_12, .int f1504_13]))] [] _ _ := Bx.of (fun a => (κ a).1) hL hP (fa_c hb1504 fa_n) (by simp only [List.map_cons, List.map_nil, hw.1]; decide)
        refine b_put (D := D) (ci := 5) (v := .int f1504_6) (ty := .int) (C := RX5) (T := TX5) (N := 14) hx hb hts iX5_takeSigned_5 tyX5 tyX5_ok nmX5 hown hN hB 0 rfl rfl 7 (by decide) (hts _ mX5_takeSigned_4) (fun _ h9 => h9) rfl (by decide +kernel) rfl rfl (Nat.le_of_ble_eq_true rfl) (.inl rfl) dX5_takeSigned_72 (fun H locs hB => ?_)
        have hB : Bx B0 D _ [(w, .inr (5, [.ref f1504_0, .int (nI ((κ w).2.2.1)), .int (nI f1504_2), .int (nI f1504_3), .int f1504_4, .int (nI f1504_5), .int f1504_6, .int f1504_6, .int f1504_8, .ref f1504_9, .int (nI f1504_10), f1504_11, .int f1504_12, .int f1504_13]))] [w] _ _ := hB
        refine lv_aload_n hx hb dX5_takeSigned_75 rfl (lv_at hl 2 rfl) ?_
        have hT : WT B0 D cs T κ _ := hT.close hB ⟨⟨0, _, rfl, ok_6 hw.1 ⟨_, _, _, _, _, _, _, _, _, _, _, _, _, rfl, (by omega), (by omega), (by omega), (by omega), (by omega), t1504_0, t1504_9, c1504_11, c1504_p2⟩⟩, trivial⟩
        have hF : Fr B0 [10] κ H0 _ := hF.close hB (fa_c (by simp [hw.2]) fa_n)
        have hL : OkL B0 _ := hB.2.2.2.2.2
        have hP : va_P D vwCl [(w, .inr (5, [.ref f1504_0, .int (nI ((κ w).2.2.1)), .int (nI f1504_2), .int (nI f1504_3), .int f1504_4, .int (nI f1504_5), .int f1504_6, .int f1504_6, .int f1504_8, .ref f1504_9, .int (nI f1504_10), f1504_11, .int f1504_12, .int f1504_13]))] _ := hB.1
        refine cv_v (As := []) (rest := []) (b := w) ⟨hx, hb, hml, hown, hts⟩ (c_X5_step hT (w := w) hw) (cwV 0 hts gX5_takeSigned_X5_step rfl rfl rfl hdX5_step_v ⟨Nat.le_of_ble_eq_true rfl, Nat.le_of_ble_eq_true rfl⟩) hN hE hL (rcv6 hN hT hw.1) rfl rfl hl.1 (Nat.le_of_ble_eq_true rfl) dX5_takeSigned_76 (Nat.zero_le _) (Nat.zero_le _) (fun H1 locs hL hqr1507 => ?_)
        obtain ⟨hT1, hF1, hqr1507⟩ := hqr1507
        have hF := hF.tr (hF1.mono (by simp))
        have hT := hT1
        have f1508 := hqr1507
        refine lv_iconst (v := 1) hx hb dX5_takeSigned_79 (by decide) ?_
        exact en_i hx hb hr hlocks hL rfl (Nat.zero_le _) (Nat.zero_le _) dX5_takeSigned_80 (⟨hT, hF, Or.inr rfl⟩)
      · refine lv_aload_n hx hb dX5_takeSigned_47 rfl (lv_at hl 2 rfl) ?_
        refine lv_bipush (v := (-3)) hx hb dX5_takeSigned_48 (by decide) ?_
        refine lv_iload_n hx hb dX5_takeSigned_50 rfl (lv_at hl 0 rfl) ?_
        refine cv_i (As := [.int (-3), .int (nI f1504_5)]) (rest := []) (b := w) ⟨hx, hb, hml, hown, hts⟩ (c_X5_fail hT (w := w) hw (x := (-3)) (y := (nI f1504_5))) (cwV 2 hts gX5_takeSigned_X5_fail rfl rfl rfl hdX5_fail_v ⟨Nat.le_of_ble_eq_true rfl, Nat.le_of_ble_eq_true rfl⟩) hN hE hL (rcv6 hN hT hw.1) rfl rfl hl.1 (Nat.le_of_ble_eq_true rfl) dX5_takeSigned_51 (Nat.zero_le _) (Nat.zero_le _) (fun r1509 H1 locs hL hqr1509 => ?_)
        obtain ⟨hT1, hF1, hqr1509⟩ := hqr1509
        have hF := hF.tr (hF1.mono (by simp))
        have hT := hT1
        obtain rfl := hqr1509
        exact en_i hx hb hr hlocks hL rfl (Nat.zero_le _) (Nat.zero_le _) dX5_takeSigned_54 (⟨hT, hF, Or.inl rfl⟩)
    · refine lv_aload_n hx hb dX5_takeSigned_28 rfl (lv_at hl 2 rfl) ?_
      refine lv_bipush (v := (-2)) hx hb dX5_takeSigned_29 (by decide) ?_
      refine lv_aload_n hx hb dX5_takeSigned_31 rfl (lv_at hl 2 rfl) ?_
      refine va_get (D := D) (ci := 5) (v := .int (nI f1504_5)) (C := RX5) (T := TX5) (N := 14) hx hb hts iX5_takeSigned_5 hown hN.1 hP 0 rfl rfl 5 (by decide) (hts _ mX5_takeSigned_1) (fun _ h9 => h9) rfl dX5_takeSigned_32 ?_
      refine cv_i (As := [.int (-2), .int (nI f1504_5)]) (rest := []) (b := w) ⟨hx, hb, hml, hown, hts⟩ (c_X5_fail hT (w := w) hw (x := (-2)) (y := (nI f1504_5))) (cwV 2 hts gX5_takeSigned_X5_fail rfl rfl rfl hdX5_fail_v ⟨Nat.le_of_ble_eq_true rfl, Nat.le_of_ble_eq_true rfl⟩) hN hE hL (rcv6 hN hT hw.1) rfl rfl hl.1 (Nat.le_of_ble_eq_true rfl) dX5_takeSigned_35 (Nat.zero_le _) (Nat.zero_le _) (fun r1510 H1 locs hL hqr1510 => ?_)
      obtain ⟨hT1, hF1, hqr1510⟩ := hqr1510
      have hF := hF.tr (hF1.mono (by simp))
      have hT := hT1
      obtain rfl := hqr1510
      exact en_i hx hb hr hlocks hL rfl (Nat.zero_le _) (Nat.zero_le _) dX5_takeSigned_38 (⟨hT, hF, Or.inl rfl⟩)
  · refine lv_istore_n (lv' := [(2, .int 1), (0, .ref w), (1, .int x)]) hx hb dX5_takeSigned_6 rfl hl (by decide) rfl (fun ls hl => ?_)
    refine lv_aload_n hx hb dX5_takeSigned_7 rfl (lv_at hl 1 rfl) ?_
    obtain ⟨hb1511, e1511, hat1511, hk1511⟩ := hT.o6 hw.1
    obtain ⟨f1511_0, f1511_2, f1511_3, f1511_4, f1511_5, f1511_6, f1511_7, f1511_8, f1511_9, f1511_10, f1511_11, f1511_12, f1511_13, rfl, c1511_1, c1511_2, c1511_3, c1511_5, c1511_10, t1511_0, t1511_9, c1511_11, c1511_p2⟩ := hk1511
    have hP : va_P D vwCl [(w, .inr (5, [.ref f1511_0, .int (nI ((κ w).2.2.1)), .int (nI f1511_2), .int (nI f1511_3), .int f1511_4, .int (nI f1511_5), .int f1511_6, .int f1511_7, .int f1511_8, .ref f1511_9, .int (nI f1511_10), f1511_11, .int f1511_12, .int f1511_13]))] _ := va_P.cons hat1511 va_P.nil
    refine va_get (D := D) (ci := 5) (v := .int (nI f1511_5)) (C := RX5) (T := TX5) (N := 14) hx hb hts iX5_takeSigned_5 hown hN.1 hP 0 rfl rfl 5 (by decide) (hts _ mX5_takeSigned_1) (fun _ h9 => h9) rfl dX5_takeSigned_8 ?_
    refine lv_istore_n (lv' := [(3, .int (nI f1511_5)), (2, .int 1), (0, .ref w), (1, .int x)]) hx hb dX5_takeSigned_11 rfl hl (by decide) rfl (fun ls hl => ?_)
    refine lv_iload_n hx hb dX5_takeSigned_12 rfl (lv_at hl 1 rfl) ?_
    refine lv_if_eq (tgt := 20) hx hb dX5_takeSigned_13 (by decide) (fun c9 => absurd c9 (by decide)) (fun _ => ?_)
    refine lv_aload_n hx hb dX5_takeSigned_16 rfl (lv_at hl 2 rfl) ?_
    refine cv_v (As := []) (rest := []) (b := w) ⟨hx, hb, hml, hown, hts⟩ (c_X5_step hT (w := w) hw) (cwV 0 hts gX5_takeSigned_X5_step rfl rfl rfl hdX5_step_v ⟨Nat.le_of_ble_eq_true rfl, Nat.le_of_ble_eq_true rfl⟩) hN hE hL (rcv6 hN hT hw.1) rfl rfl hl.1 (Nat.le_of_ble_eq_true rfl) dX5_takeSigned_17 (Nat.zero_le _) (Nat.zero_le _) (fun H1 locs hL hqr1512 => ?_)
    obtain ⟨hT1, hF1, hqr1512⟩ := hqr1512
    have hF := hF.tr (hF1.mono (by simp))
    have hT := hT1
    have f1513 := hqr1512
    refine lv_aload_n hx hb dX5_takeSigned_20 rfl (lv_at hl 2 rfl) ?_
    obtain ⟨hb1514, e1514, hat1514, hk1514⟩ := hT.o6 hw.1
    obtain ⟨f1514_0, f1514_2, f1514_3, f1514_4, f1514_5, f1514_6, f1514_7, f1514_8, f1514_9, f1514_10, f1514_11, f1514_12, f1514_13, rfl, c1514_1, c1514_2, c1514_3, c1514_5, c1514_10, t1514_0, t1514_9, c1514_11, c1514_p2⟩ := hk1514
    have hP : va_P D vwCl [(w, .inr (5, [.ref f1514_0, .int (nI ((κ w).2.2.1)), .int (nI f1514_2), .int (nI f1514_3), .int f1514_4, .int (nI f1514_5), .int f1514_6, .int f1514_7, .int f1514_8, .ref f1514_9, .int (nI f1514_10), f1514_11, .int f1514_12, .int f1514_13]))] _ := va_P.cons hat1514 va_P.nil
    refine va_get (D := D) (ci := 5) (v := .int f1514_4) (C := RX5) (T := TX5) (N := 14) hx hb hts iX5_takeSigned_5 hown hN.1 hP 0 rfl rfl 4 (by decide) (hts _ mX5_takeSigned_2) (fun _ h9 => h9) rfl dX5_takeSigned_21 ?_
    refine lv_iconst (v := 1) hx hb dX5_takeSigned_24 (by decide) ?_
    refine lv_icmp_eq (tgt := 39) hx hb dX5_takeSigned_25 (by decide) (fun c1515 => ?_) (fun c1515 => ?_)
    · refine lv_aload_n hx hb dX5_takeSigned_39 rfl (lv_at hl 2 rfl) ?_
      refine va_get (D := D) (ci := 5) (v := .int f1514_6) (C := RX5) (T := TX5) (N := 14) hx hb hts iX5_takeSigned_5 hown hN.1 hP 0 rfl rfl 6 (by decide) (hts _ mX5_takeSigned_3) (fun _ h9 => h9) rfl dX5_takeSigned_40 ?_
      refine lv_iload_n hx hb dX5_takeSigned_43 rfl (lv_at hl 3 rfl) ?_
      refine lv_icmp_le (tgt := 55) hx hb dX5_takeSigned_44 (by decide) (fun c1516 => ?_) (fun c1516 => ?_)
      · refine lv_aload_n hx hb dX5_takeSigned_55 rfl (lv_at hl 2 rfl) ?_
        refine lv_iload_n hx hb dX5_takeSigned_56 rfl (lv_at hl 1 rfl) ?_
        refine lv_if_eq (tgt := 68) hx hb dX5_takeSigned_57 (by decide) (fun c9 => absurd c9 (by decide)) (fun _ => ?_)
        refine lv_aload_n hx hb dX5_takeSigned_60 rfl (lv_at hl 2 rfl) ?_
        refine va_get (D := D) (ci := 5) (v := .int f1514_6) (C := RX5) (T := TX5) (N := 14) hx hb hts iX5_takeSigned_5 hown hN.1 hP 0 rfl rfl 6 (by decide) (hts _ mX5_takeSigned_3) (fun _ h9 => h9) rfl dX5_takeSigned_61 ?_
        refine lv_ineg hx hb dX5_takeSigned_64 ?_
        refine gn_i (fun x1517 => ?_)
        refine lv_goto (tgt := 72) hx hb dX5_takeSigned_65 (by decide) ?_
        have hB : Bx B0 D _ [(w, .inr (5, [.ref f1514_0, .int (nI ((κ w).2.2.1)), .int (nI f1514_2), .int (nI f1514_3), .int f1514_4, .int (nI f1514_5), .int f1514_6, .int f1514_7, .int f1514_8, .ref f1514_9, .int (nI f1514_10), f1514_11, .int f1514_12, .int f1514_13]))] [] _ _ := Bx.of (fun a => (κ a).1) hL hP (fa_c hb1514 fa_n) (by simp only [List.map_cons, List.map_nil, hw.1]; decide)
        refine b_put (D := D) (ci := 5) (v := .int x1517) (ty := .int) (C := RX5) (T := TX5) (N := 14) hx hb hts iX5_takeSigned_5 tyX5 tyX5_ok nmX5 hown hN hB 0 rfl rfl 7 (by decide) (hts _ mX5_takeSigned_4) (fun _ h9 => h9) rfl (by decide +kernel) rfl rfl (Nat.le_of_ble_eq_true rfl) (.inl rfl) dX5_takeSigned_72 (fun H locs hB => ?_)
        have hB : Bx B0 D _ [(w, .inr (5, [.ref f1514_0, .int (nI ((κ w).2.2.1)), .int (nI f1514_2), .int (nI f1514_3), .int f1514_4, .int (nI f1514_5), .int f1514_6, .int x1517, .int f1514_8, .ref f1514_9, .int (nI f1514_10), f1514_11, .int f1514_12, .int f1514_13]))] [w] _ _ := hB
        refine lv_aload_n hx hb dX5_takeSigned_75 rfl (lv_at hl 2 rfl) ?_
        have hT : WT B0 D cs T κ _ := hT.close hB ⟨⟨0, _, rfl, ok_6 hw.1 ⟨_, _, _, _, _, _, _, _, _, _, _, _, _, rfl, (by omega), (by omega), (by omega), (by omega), (by omega), t1514_0, t1514_9, c1514_11, c1514_p2⟩⟩, trivial⟩
        have hF : Fr B0 [10] κ H0 _ := hF.close hB (fa_c (by simp [hw.2]) fa_n)
        have hL : OkL B0 _ := hB.2.2.2.2.2
        have hP : va_P D vwCl [(w, .inr (5, [.ref f1514_0, .int (nI ((κ w).2.2.1)), .int (nI f1514_2), .int (nI f1514_3), .int f1514_4, .int (nI f1514_5), .int f1514_6, .int x1517, .int f1514_8, .ref f1514_9, .int (nI f1514_10), f1514_11, .int f1514_12, .int f1514_13]))] _ := hB.1
        refine cv_v (As := []) (rest := []) (b := w) ⟨hx, hb, hml, hown, hts⟩ (c_X5_step hT (w := w) hw) (cwV 0 hts gX5_takeSigned_X5_step rfl rfl rfl hdX5_step_v ⟨Nat.le_of_ble_eq_true rfl, Nat.le_of_ble_eq_true rfl⟩) hN hE hL (rcv6 hN hT hw.1) rfl rfl hl.1 (Nat.le_of_ble_eq_true rfl) dX5_takeSigned_76 (Nat.zero_le _) (Nat.zero_le _) (fun H1 locs hL hqr1518 => ?_)
        obtain ⟨hT1, hF1, hqr1518⟩ := hqr1518
        have hF := hF.tr (hF1.mono (by simp))
        have hT := hT1
        have f1519 := hqr1518
        refine lv_iconst (v := 1) hx hb dX5_takeSigned_79 (by decide) ?_
        exact en_i hx hb hr hlocks hL rfl (Nat.zero_le _) (Nat.zero_le _) dX5_takeSigned_80 (⟨hT, hF, Or.inr rfl⟩)
      · refine lv_aload_n hx hb dX5_takeSigned_47 rfl (lv_at hl 2 rfl) ?_
        refine lv_bipush (v := (-3)) hx hb dX5_takeSigned_48 (by decide) ?_
        refine lv_iload_n hx hb dX5_takeSigned_50 rfl (lv_at hl 0 rfl) ?_
        refine cv_i (As := [.int (-3), .int (nI f1511_5)]) (rest := []) (b := w) ⟨hx, hb, hml, hown, hts⟩ (c_X5_fail hT (w := w) hw (x := (-3)) (y := (nI f1511_5))) (cwV 2 hts gX5_takeSigned_X5_fail rfl rfl rfl hdX5_fail_v ⟨Nat.le_of_ble_eq_true rfl, Nat.le_of_ble_eq_true rfl⟩) hN hE hL (rcv6 hN hT hw.1) rfl rfl hl.1 (Nat.le_of_ble_eq_true rfl) dX5_takeSigned_51 (Nat.zero_le _) (Nat.zero_le _) (fun r1520 H1 locs hL hqr1520 => ?_)
        obtain ⟨hT1, hF1, hqr1520⟩ := hqr1520
        have hF := hF.tr (hF1.mono (by simp))
        have hT := hT1
        obtain rfl := hqr1520
        exact en_i hx hb hr hlocks hL rfl (Nat.zero_le _) (Nat.zero_le _) dX5_takeSigned_54 (⟨hT, hF, Or.inl rfl⟩)
    · refine lv_aload_n hx hb dX5_takeSigned_28 rfl (lv_at hl 2 rfl) ?_
      refine lv_bipush (v := (-2)) hx hb dX5_takeSigned_29 (by decide) ?_
      refine lv_aload_n hx hb dX5_takeSigned_31 rfl (lv_at hl 2 rfl) ?_
      refine va_get (D := D) (ci := 5) (v := .int (nI f1514_5)) (C := RX5) (T := TX5) (N := 14) hx hb hts iX5_takeSigned_5 hown hN.1 hP 0 rfl rfl 5 (by decide) (hts _ mX5_takeSigned_1) (fun _ h9 => h9) rfl dX5_takeSigned_32 ?_
      refine cv_i (As := [.int (-2), .int (nI f1514_5)]) (rest := []) (b := w) ⟨hx, hb, hml, hown, hts⟩ (c_X5_fail hT (w := w) hw (x := (-2)) (y := (nI f1514_5))) (cwV 2 hts gX5_takeSigned_X5_fail rfl rfl rfl hdX5_fail_v ⟨Nat.le_of_ble_eq_true rfl, Nat.le_of_ble_eq_true rfl⟩) hN hE hL (rcv6 hN hT hw.1) rfl rfl hl.1 (Nat.le_of_ble_eq_true rfl) dX5_takeSigned_35 (Nat.zero_le _) (Nat.zero_le _) (fun r1521 H1 locs hL hqr1521 => ?_)
      obtain ⟨hT1, hF1, hqr1521⟩ := hqr1521
      have hF := hF.tr (hF1.mono (by simp))
      have hT := hT1
      obtain rfl := hqr1521
      exact en_i hx hb hr hlocks hL rfl (Nat.zero_le _) (Nat.zero_le _) dX5_takeSigned_38 (⟨hT, hF, Or.inl rfl⟩)
set_option maxHeartbeats 4000000 in
set_option maxRecDepth 100000 in
theorem c_X5_codeOfWord {l : Launch} {D : va_G} {cs : Nat → ClassId} {B0 T : Nat} {κ : KM} {H0 : Heap} (hT : WT B0 D cs T κ H0) {w : Nat} (hw : T2 κ w 6 10) : KC l yX5_codeOfWord wsX5_codeOfWord 5 107 0 0 D cs B0 H0 [.ref w] (Qi (fun _ H => H = H0)) := by
  refine KC.of cX5_codeOfWord 1 (some .int) (by decide) rfl (Nat.le_of_ble_eq_true rfl) ?_
  intro p e s m below meth c ls hx hb hr hml hown hts hlocks hin hN hE hH0 hl
  have hown : s.vm.findClass RX5 = some m.cls := hown
  have hl : lv_has ls 1 [(0, .ref w)] := hl
  have hL : OkL B0 [] := OkL.nil
  refine lv_aload_n hx hb dX5_codeOfWord_0 rfl (lv_at hl 0 rfl) ?_
  refine va_ldcS hx hb hown (hN.s 1 rfl) dX5_codeOfWord_1 ?_
  refine cv_i (As := [.ref (cs 101)]) (rest := []) (b := w) ⟨hx, hb, hml, hown, hts⟩ (c_X5_isWord hT (w := w) hw (i := 1) (by decide)) (cwV 1 hts gX5_codeOfWord_X5_isWord rfl rfl rfl hdX5_isWord_v ⟨Nat.le_of_ble_eq_true rfl, Nat.le_of_ble_eq_true rfl⟩) hN hE hL (rcv6 hN hT hw.1) rfl rfl hl.1 (Nat.le_of_ble_eq_true rfl) dX5_codeOfWord_3 (Nat.zero_le _) (Nat.zero_le _) (fun r1522 H1 locs hL hqr1522 => ?_)
  obtain ⟨h9, hqr1522⟩ := hqr1522; replace h9 := h9.symm; subst h9
  rcases hqr1522 with rfl | rfl
  · refine lv_if_eq (tgt := 11) hx hb dX5_codeOfWord_6 (by decide) (fun _ => ?_) (fun c9 => absurd (by decide) c9)
    refine lv_aload_n hx hb dX5_codeOfWord_11 rfl (lv_at hl 0 rfl) ?_
    refine va_ldcS hx hb hown (hN.s 7 rfl) dX5_codeOfWord_12 ?_
    refine cv_i (As := [.ref (cs 107)]) (rest := []) (b := w) ⟨hx, hb, hml, hown, hts⟩ (c_X5_isWord hT (w := w) hw (i := 7) (by decide)) (cwV 1 hts gX5_codeOfWord_X5_isWord rfl rfl rfl hdX5_isWord_v ⟨Nat.le_of_ble_eq_true rfl, Nat.le_of_ble_eq_true rfl⟩) hN hE hL (rcv6 hN hT hw.1) rfl rfl hl.1 (Nat.le_of_ble_eq_true rfl) dX5_codeOfWord_14 (Nat.zero_le _) (Nat.zero_le _) (fun r1523 H1 locs hL hqr1523 => ?_)
    obtain ⟨h9, hqr1523⟩ := hqr1523; replace h9 := h9.symm; subst h9
    rcases hqr1523 with rfl | rfl
    · refine lv_if_eq (tgt := 23) hx hb dX5_codeOfWord_17 (by decide) (fun _ => ?_) (fun c9 => absurd (by decide) c9)
      refine lv_aload_n hx hb dX5_codeOfWord_23 rfl (lv_at hl 0 rfl) ?_
      refine va_ldcS hx hb hown (hN.s 8 rfl) dX5_codeOfWord_24 ?_
      refine cv_i (As := [.ref (cs 108)]) (rest := []) (b := w) ⟨hx, hb, hml, hown, hts⟩ (c_X5_isWord hT (w := w) hw (i := 8) (by decide)) (cwV 1 hts gX5_codeOfWord_X5_isWord rfl rfl rfl hdX5_isWord_v ⟨Nat.le_of_ble_eq_true rfl, Nat.le_of_ble_eq_true rfl⟩) hN hE hL (rcv6 hN hT hw.1) rfl rfl hl.1 (Nat.le_of_ble_eq_true rfl) dX5_codeOfWord_26 (Nat.zero_le _) (Nat.zero_le _) (fun r1524 H1 locs hL hqr1524 => ?_)
      obtain ⟨h9, hqr1524⟩ := hqr1524; replace h9 := h9.symm; subst h9
      rcases hqr1524 with rfl | rfl
      · refine lv_if_eq (tgt := 35) hx hb dX5_codeOfWord_29 (by decide) (fun _ => ?_) (fun c9 => absurd (by decide) c9)
        refine lv_aload_n hx hb dX5_codeOfWord_35 rfl (lv_at hl 0 rfl) ?_
        refine va_ldcS hx hb hown (hN.s 9 rfl) dX5_codeOfWord_36 ?_
        refine cv_i (As := [.ref (cs 109)]) (rest := []) (b := w) ⟨hx, hb, hml, hown, hts⟩ (c_X5_isWord hT (w := w) hw (i := 9) (by decide)) (cwV 1 hts gX5_codeOfWord_X5_isWord rfl rfl rfl hdX5_isWord_v ⟨Nat.le_of_ble_eq_true rfl, Nat.le_of_ble_eq_true rfl⟩) hN hE hL (rcv6 hN hT hw.1) rfl rfl hl.1 (Nat.le_of_ble_eq_true rfl) dX5_codeOfWord_38 (Nat.zero_le _) (Nat.zero_le _) (fun r1525 H1 locs hL hqr1525 => ?_)
        obtain ⟨h9, hqr1525⟩ := hqr1525; replace h9 := h9.symm; subst h9
        rcases hqr1525 with rfl | rfl
        · refine lv_if_eq (tgt := 49) hx hb dX5_codeOfWord_41 (by decide) (fun _ => ?_) (fun c9 => absurd (by decide) c9)
          refine lv_iconst (v := 0) hx hb dX5_codeOfWord_49 (by decide) ?_
          exact en_i hx hb hr hlocks hL rfl (Nat.zero_le _) (Nat.zero_le _) dX5_codeOfWord_50 (rfl)
        · refine lv_if_eq (tgt := 49) hx hb dX5_codeOfWord_41 (by decide) (fun c9 => absurd c9 (by decide)) (fun _ => ?_)
          refine lv_bipush (v := (-4)) hx hb dX5_codeOfWord_44 (by decide) ?_
          refine lv_goto (tgt := 50) hx hb dX5_codeOfWord_46 (by decide) ?_
          exact en_i hx hb hr hlocks hL rfl (Nat.zero_le _) (Nat.zero_le _) dX5_codeOfWord_50 (rfl)
      · refine lv_if_eq (tgt := 35) hx hb dX5_codeOfWord_29 (by decide) (fun c9 => absurd c9 (by decide)) (fun _ => ?_)
        refine lv_bipush (v := (-3)) hx hb dX5_codeOfWord_32 (by decide) ?_
        exact en_i hx hb hr hlocks hL rfl (Nat.zero_le _) (Nat.zero_le _) dX5_codeOfWord_34 (rfl)
    · refine lv_if_eq (tgt := 23) hx hb dX5_codeOfWord_17 (by decide) (fun c9 => absurd c9 (by decide)) (fun _ => ?_)
      refine lv_bipush (v := (-2)) hx hb dX5_codeOfWord_20 (by decide) ?_
      exact en_i hx hb hr hlocks hL rfl (Nat.zero_le _) (Nat.zero_le _) dX5_codeOfWord_22 (rfl)
  · refine lv_if_eq (tgt := 11) hx hb dX5_codeOfWord_6 (by decide) (fun c9 => absurd c9 (by decide)) (fun _ => ?_)
    refine lv_iconst (v := (-1)) hx hb dX5_codeOfWord_9 (by decide) ?_
    exact en_i hx hb hr hlocks hL rfl (Nat.zero_le _) (Nat.zero_le _) dX5_codeOfWord_10 (rfl)
theorem mX5_readNeed_1 : (.fieldLink RX5 65 "OneBeat$Reader" "setup" "LOneBeat$Setup;" : Cond) ∈ wsX5_readNeed := List.mem_of_getElem? (i := 1) (by decide +kernel)
theorem iX5_readNeed_5 : ∀ w ∈ wsX50, w ∈ wsX5_readNeed := fun w h => List.mem_of_mem_drop (List.mem_of_mem_take ((show wsX50 = (wsX5_readNeed.drop 26).take 14 by decide +kernel) ▸ h))
theorem iX5_readNeed_6 : ∀ w ∈ wsX60, w ∈ wsX5_readNeed := fun w h => List.mem_of_mem_drop (List.mem_of_mem_take ((show wsX60 = (wsX5_readNeed.drop 40).take 8 by decide +kernel) ▸ h))
theorem hdX5_takeNumber_v : yX5_takeNumber.cls = RX5 ∧ yX5_takeNumber.cls ≠ "java/lang/invoke/MethodHandle" ∧ yX5_takeNumber.cls ≠ "java/lang/invoke/VarHandle" ∧ (parseMethodDescriptor yX5_takeNumber.desc).map (fun d => d.parameters.length) = some 2 := by decide +kernel
theorem mX5_readNeed_2 : (.fieldLink RX5 59 "OneBeat$Reader" "taken" "I" : Cond) ∈ wsX5_readNeed := List.mem_of_getElem? (i := 2) (by decide +kernel)
set_option maxHeartbeats 4000000 in
set_option maxRecDepth 100000 in
theorem c_X5_readNeed {l : Launch} {D : va_G} {cs : Nat → ClassId} {B0 T : Nat} {κ : KM} {H0 : Heap} (hT : WT B0 D cs T κ H0) {w : Nat} (hw : T2 κ w 6 10) (hs0 : ¬ (κ w).2.2.2 = 0) (hsu : T2 κ (κ w).2.2.2 7 11) : KC l yX5_readNeed wsX5_readNeed 2 44 0 0 D cs B0 H0 [.ref w] (Qi (fun r H => WT B0 D cs T κ H ∧ Fr B0 [10, 11] κ H0 H ∧ (r = 0 ∨ r = 1))) := by
  refine KC.of cX5_readNeed 1 (some .boolean) (by decide) rfl (Nat.le_of_ble_eq_true rfl) ?_
  intro p e s m below meth c ls hx hb hr hml hown hts hlocks hin hN hE hH0 hl
  have hown : s.vm.findClass RX5 = some m.cls := hown
  have hl : lv_has ls 1 [(0, .ref w)] := hl
  have hL : OkL B0 [] := OkL.nil
  have hF : Fr B0 [10, 11] κ H0 H0 := Fr.rf
  refine lv_aload_n hx hb dX5_readNeed_0 rfl (lv_at hl 0 rfl) ?_
  refine cv_v (As := []) (rest := []) (b := w) ⟨hx, hb, hml, hown, hts⟩ (c_X5_step hT (w := w) hw) (cwV 0 hts gX5_readNeed_X5_step rfl rfl rfl hdX5_step_v ⟨Nat.le_of_ble_eq_true rfl, Nat.le_of_ble_eq_true rfl⟩) hN hE hL (rcv6 hN hT hw.1) rfl rfl hl.1 (Nat.le_of_ble_eq_true rfl) dX5_readNeed_1 (Nat.zero_le _) (Nat.zero_le _) (fun H1 locs hL hqr1526 => ?_)
  obtain ⟨hT1, hF1, hqr1526⟩ := hqr1526
  have hF := hF.tr (hF1.mono (by simp))
  have hT := hT1
  have f1527 := hqr1526
  refine lv_aload_n hx hb dX5_readNeed_4 rfl (lv_at hl 0 rfl) ?_
  refine lv_iconst (v := 1) hx hb dX5_readNeed_5 (by decide) ?_
  refine lv_aload_n hx hb dX5_readNeed_6 rfl (lv_at hl 0 rfl) ?_
  obtain ⟨hb1528, e1528, hat1528, hk1528⟩ := hT.o6 hw.1
  obtain ⟨f1528_0, f1528_2, f1528_3, f1528_4, f1528_5, f1528_6, f1528_7, f1528_8, f1528_9, f1528_10, f1528_11, f1528_12, f1528_13, rfl, c1528_1, c1528_2, c1528_3, c1528_5, c1528_10, t1528_0, t1528_9, c1528_11, c1528_p2⟩ := hk1528
  obtain rfl : f1528_11 = .ref (κ w).2.2.2 := c1528_p2.resolve_left hs0
  have hP : va_P D vwCl [(w, .inr (5, [.ref f1528_0, .int (nI ((κ w).2.2.1)), .int (nI f1528_2), .int (nI f1528_3), .int f1528_4, .int (nI f1528_5), .int f1528_6, .int f1528_7, .int f1528_8, .ref f1528_9, .int (nI f1528_10), .ref (κ w).2.2.2, .int f1528_12, .int f1528_13]))] _ := va_P.cons hat1528 va_P.nil
  refine va_get (D := D) (ci := 5) (v := .ref (κ w).2.2.2) (C := RX5) (T := TX5) (N := 14) hx hb hts iX5_readNeed_5 hown hN.1 hP 0 rfl rfl 11 (by decide) (hts _ mX5_readNeed_1) (fun _ h9 => h9) rfl dX5_readNeed_7 ?_
  obtain ⟨hb1529, e1529, hat1529, hk1529⟩ := hT.o7 hsu.1
  obtain ⟨f1529_0, f1529_1, f1529_2, f1529_3, f1529_4, f1529_5, f1529_6, f1529_7, rfl, c1529_0, c1529_3, c1529_mg, t1529_4, t1529_5, t1529_6, t1529_7⟩ := hk1529
  rw [hsu.2] at t1529_4
  rw [hsu.2] at t1529_5
  rw [hsu.2] at t1529_6
  rw [hsu.2] at t1529_7
  have hP : va_P D vwCl [((κ w).2.2.2, .inr (6, [.int (nI f1529_0), .int f1529_1, .int f1529_2, f1529_3, .ref f1529_4, .ref f1529_5, .ref f1529_6, .ref f1529_7])), (w, .inr (5, [.ref f1528_0, .int (nI ((κ w).2.2.1)), .int (nI f1528_2), .int (nI f1528_3), .int f1528_4, .int (nI f1528_5), .int f1528_6, .int f1528_7, .int f1528_8, .ref f1528_9, .int (nI f1528_10), .ref (κ w).2.2.2, .int f1528_12, .int f1528_13]))] _ := va_P.cons hat1529 hP
  refine va_getN (D := D) (ci := 6) (v := .int (nI f1529_0)) (C := RX6) (T := TX6) (N := 8) hx hb hts iX5_readNeed_6 hown hN.1 hP 0 rfl rfl 0 (by decide) (hN.f 38 rfl) (fun _ h9 => h9) rfl dX5_readNeed_10 ?_
  refine cv_i (As := [.int 1, .int (nI f1529_0)]) (rest := []) (b := w) ⟨hx, hb, hml, hown, hts⟩ (c_X5_takeNumber hT (w := w) hw (x := 1) (y := (nI f1529_0))) (cwV 2 hts gX5_readNeed_X5_takeNumber rfl rfl rfl hdX5_takeNumber_v ⟨Nat.le_of_ble_eq_true rfl, Nat.le_of_ble_eq_true rfl⟩) hN hE hL (rcv6 hN hT hw.1) rfl rfl hl.1 (Nat.le_of_ble_eq_true rfl) dX5_readNeed_13 (Nat.zero_le _) (Nat.zero_le _) (fun r1530 H1 locs hL hqr1530 => ?_)
  obtain ⟨hT1, hF1, hqr1530⟩ := hqr1530
  have hP : va_P D vwCl [((κ w).2.2.2, .inr (6, [.int (nI f1529_0), .int f1529_1, .int f1529_2, f1529_3, .ref f1529_4, .ref f1529_5, .ref f1529_6, .ref f1529_7]))] _ := hF1.hP (hP.sub [0] rfl) (fa_c ⟨by rw [hsu.1]; decide, by rw [hsu.2]; first | decide | (simp; done) | (simp; omega)⟩ fa_n)
  have hF := hF.tr (hF1.mono (by simp))
  have hT := hT1
  rcases hqr1530 with rfl | ⟨rfl, v1531, l1532, g1533, f1534⟩
  · refine lv_if_ne (tgt := 21) hx hb dX5_readNeed_16 (by decide) (fun c9 => absurd (by decide) c9) (fun _ => ?_)
    refine lv_iconst (v := 0) hx hb dX5_readNeed_19 (by decide) ?_
    exact en_i hx hb hr hlocks hL rfl (Nat.zero_le _) (Nat.zero_le _) dX5_readNeed_20 (⟨hT, hF, Or.inl rfl⟩)
  · refine lv_if_ne (tgt := 21) hx hb dX5_readNeed_16 (by decide) (fun _ => ?_) (fun c9 => absurd c9 (by decide))
    refine lv_aload_n hx hb dX5_readNeed_21 rfl (lv_at hl 0 rfl) ?_
    obtain ⟨hb1535, e1535, hat1535, hk1535⟩ := hT.o6 hw.1
    obtain ⟨f1535_0, f1535_2, f1535_3, f1535_4, f1535_5, f1535_6, f1535_7, f1535_8, f1535_9, f1535_10, f1535_11, f1535_12, f1535_13, rfl, c1535_1, c1535_2, c1535_3, c1535_5, c1535_10, t1535_0, t1535_9, c1535_11, c1535_p2⟩ := hk1535
    obtain rfl : f1535_11 = .ref (κ w).2.2.2 := c1535_p2.resolve_left hs0
    have hP : va_P D vwCl [(w, .inr (5, [.ref f1535_0, .int (nI ((κ w).2.2.1)), .int (nI f1535_2), .int (nI f1535_3), .int f1535_4, .int (nI f1535_5), .int f1535_6, .int f1535_7, .int f1535_8, .ref f1535_9, .int (nI f1535_10), .ref (κ w).2.2.2, .int f1535_12, .int f1535_13])), ((κ w).2.2.2, .inr (6, [.int (nI f1529_0), .int f1529_1, .int f1529_2, f1529_3, .ref f1529_4, .ref f1529_5, .ref f1529_6, .ref f1529_7]))] _ := va_P.cons hat1535 hP
    refine va_get (D := D) (ci := 5) (v := .ref (κ w).2.2.2) (C := RX5) (T := TX5) (N := 14) hx hb hts iX5_readNeed_5 hown hN.1 hP 0 rfl rfl 11 (by decide) (hts _ mX5_readNeed_1) (fun _ h9 => h9) rfl dX5_readNeed_22 ?_
    refine lv_aload_n hx hb dX5_readNeed_25 rfl (lv_at hl 0 rfl) ?_
    refine va_get (D := D) (ci := 5) (v := .int f1535_7) (C := RX5) (T := TX5) (N := 14) hx hb hts iX5_readNeed_5 hown hN.1 hP 0 rfl rfl 7 (by decide) (hts _ mX5_readNeed_2) (fun _ h9 => h9) rfl dX5_readNeed_26 ?_
    have hB : Bx B0 D _ [(w, .inr (5, [.ref f1535_0, .int (nI ((κ w).2.2.1)), .int (nI f1535_2), .int (nI f1535_3), .int f1535_4, .int (nI f1535_5), .int f1535_6, .int f1535_7, .int f1535_8, .ref f1535_9, .int (nI f1535_10), .ref (κ w).2.2.2, .int f1535_12, .int f1535_13])), ((κ w).2.2.2, .inr (6, [.int (nI f1529_0), .int f1529_1, .int f1529_2, f1529_3, .ref f1529_4, .ref f1529_5, .ref f1529_6, .ref f1529_7]))] [] _ _ := Bx.of (fun a => (κ a).1) hL hP (fa_c hb1535 (fa_c hb1529 fa_n)) (by simp only [List.map_cons, List.map_nil, hw.1, hsu.1]; decide)
    refine b_putN (D := D) (ci := 6) (v := .int f1535_7) (ty := .int) (C := RX6) (T := TX6) (N := 8) hx hb hts iX5_readNeed_6 tyX6 tyX6_ok nmX6 hown hN hB 1 rfl rfl 1 (by decide) (hN.f 40 rfl) (fun _ h9 => h9) rfl (by decide +kernel) rfl rfl (Nat.le_of_ble_eq_true rfl) (.inl rfl) dX5_readNeed_29 (fun H locs hB => ?_)
    have hB : Bx B0 D _ [(w, .inr (5, [.ref f1535_0, .int (nI ((κ w).2.2.1)), .int (nI f1535_2), .int (nI f1535_3), .int f1535_4, .int (nI f1535_5), .int f1535_6, .int f1535_7, .int f1535_8, .ref f1535_9, .int (nI f1535_10), .ref (κ w).2.2.2, .int f1535_12, .int f1535_13])), ((κ w).2.2.2, .inr (6, [.int (nI f1529_0), .int f1535_7, .int f1529_2, f1529_3, .ref f1529_4, .ref f1529_5, .ref f1529_6, .ref f1529_7]))] [(κ w).2.2.2] _ _ := hB
    refine lv_iconst (v := 1) hx hb dX5_readNeed_32 (by decide) ?_
    have hT : WT B0 D cs T κ _ := hT.close hB ⟨⟨1, _, rfl, ok_7 hsu.1 ⟨_, _, _, _, _, _, _, _, rfl, (by omega), c1529_3, c1529_mg, ⟨t1529_4.1, by rw [hsu.2]; exact t1529_4.2⟩, ⟨t1529_5.1, by rw [hsu.2]; exact t1529_5.2⟩, ⟨t1529_6.1, by rw [hsu.2]; exact t1529_6.2⟩, ⟨t1529_7.1, by rw [hsu.2]; exact t1529_7.2⟩⟩⟩, trivial⟩
    have hF : Fr B0 [10, 11] κ H0 _ := hF.close hB (fa_c (by simp [hsu.2]) fa_n)
    have hL : OkL B0 _ := hB.2.2.2.2.2
    have hP : va_P D vwCl [(w, .inr (5, [.ref f1535_0, .int (nI ((κ w).2.2.1)), .int (nI f1535_2), .int (nI f1535_3), .int f1535_4, .int (nI f1535_5), .int f1535_6, .int f1535_7, .int f1535_8, .ref f1535_9, .int (nI f1535_10), .ref (κ w).2.2.2, .int f1535_12, .int f1535_13])), ((κ w).2.2.2, .inr (6, [.int (nI f1529_0), .int f1535_7, .int f1529_2, f1529_3, .ref f1529_4, .ref f1529_5, .ref f1529_6, .ref f1529_7]))] _ := hB.1
    exact en_i hx hb hr hlocks hL rfl (Nat.zero_le _) (Nat.zero_le _) dX5_readNeed_33 (⟨hT, hF, Or.inr rfl⟩)
theorem mX5_readPatience_1 : (.fieldLink RX5 65 "OneBeat$Reader" "setup" "LOneBeat$Setup;" : Cond) ∈ wsX5_readPatience := List.mem_of_getElem? (i := 1) (by decide +kernel)
theorem iX5_readPatience_5 : ∀ w ∈ wsX50, w ∈ wsX5_readPatience := fun w h => List.mem_of_mem_drop (List.mem_of_mem_take ((show wsX50 = (wsX5_readPatience.drop 26).take 14 by decide +kernel) ▸ h))
theorem mX5_readPatience_2 : (.fieldLink RX5 59 "OneBeat$Reader" "taken" "I" : Cond) ∈ wsX5_readPatience := List.mem_of_getElem? (i := 2) (by decide +kernel)
theorem iX5_readPatience_6 : ∀ w ∈ wsX60, w ∈ wsX5_readPatience := fun w h => List.mem_of_mem_drop (List.mem_of_mem_take ((show wsX60 = (wsX5_readPatience.drop 40).take 8 by decide +kernel) ▸ h))
