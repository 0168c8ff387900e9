theorem mJ0_coder_7d493_1 : (.fieldLink RJ0 38 "java/lang/String" "COMPACT_STRINGS" "Z" : Cond) ∈ wsJ0_coder_7d493 := List.mem_of_getElem? (i := 1) (by decide +kernel)
theorem mJ0_coder_7d493_2 : (.fieldLink RJ0 15 "java/lang/String" "coder" "B" : Cond) ∈ wsJ0_coder_7d493 := List.mem_of_getElem? (i := 2) (by decide +kernel)
set_option maxHeartbeats 4000000 in
set_option maxRecDepth 100000 in
theorem c_J0_coder_7d493 {l : Launch} {D : va_G} {cs : Nat → ClassId} {B0 T : Nat} {κ : KM} {H0 : Heap} (hT : WT B0 D cs T κ H0) {i : Nat} (hi9 : i ∈ nW) : KC l yJ0_coder_7d493 wsJ0_coder_7d493 0 0 0 0 D cs B0 H0 [.ref (cs (100 + i))] (Qi (fun r H => H = H0 ∧ r = 0)) := by
  refine KC.of cJ0_coder_7d493 1 (some .byte) (by decide) rfl (Nat.le_of_ble_eq_true rfl) ?_
  intro p e s m below meth c ls hx hb hr hml hown hts hlocks hin hN hE hH0 hl
  have hown : s.vm.findClass RJ0 = some m.cls := hown
  have hl : lv_has ls 1 [(0, .ref (cs (100 + i)))] := hl
  have hL : OkL B0 [] := OkL.nil
  refine W.vaS hL (fun hS => ?_)
  refine va_gets hx hb hE.2.2.1 hS hown (hts _ mJ0_coder_7d493_1) (fun _ h9 => h9) dJ0_coder_7d493_0 ?_
  refine lv_if_eq (tgt := 13) hx hb dJ0_coder_7d493_3 (by decide) (fun c9 => absurd c9 (by decide)) (fun _ => ?_)
  refine lv_aload_n hx hb dJ0_coder_7d493_6 rfl (lv_at hl 0 rfl) ?_
  refine W.vaS hL (fun hS => ?_)
  refine vk_getf hx hb (hE.2.1 _ hi9).2.1 hS hown (hts _ mJ0_coder_7d493_2) (fun _ h9 => h9) dJ0_coder_7d493_7 ?_
  refine lv_goto (tgt := 14) hx hb dJ0_coder_7d493_10 (by decide) ?_
  exact en_i hx hb hr hlocks hL rfl (Nat.zero_le _) (Nat.zero_le _) dJ0_coder_7d493_14 (⟨rfl, rfl⟩)
theorem mJ0_isLatin1_aae02_1 : (.fieldLink RJ0 38 "java/lang/String" "COMPACT_STRINGS" "Z" : Cond) ∈ wsJ0_isLatin1_aae02 := List.mem_of_getElem? (i := 1) (by decide +kernel)
theorem mJ0_isLatin1_aae02_2 : (.fieldLink RJ0 15 "java/lang/String" "coder" "B" : Cond) ∈ wsJ0_isLatin1_aae02 := List.mem_of_getElem? (i := 2) (by decide +kernel)
set_option maxHeartbeats 4000000 in
set_option maxRecDepth 100000 in
theorem c_J0_isLatin1_aae02 {l : Launch} {D : va_G} {cs : Nat → ClassId} {B0 T : Nat} {κ : KM} {H0 : Heap} (hT : WT B0 D cs T κ H0) {i : Nat} (hi9 : i ∈ nW) : KC l yJ0_isLatin1_aae02 wsJ0_isLatin1_aae02 0 0 0 0 D cs B0 H0 [.ref (cs (100 + i))] (Qi (fun r H => H = H0 ∧ r = 1)) := by
  refine KC.of cJ0_isLatin1_aae02 1 (some .boolean) (by decide) rfl (Nat.le_of_ble_eq_true rfl) ?_
  intro p e s m below meth c ls hx hb hr hml hown hts hlocks hin hN hE hH0 hl
  have hown : s.vm.findClass RJ0 = some m.cls := hown
  have hl : lv_has ls 1 [(0, .ref (cs (100 + i)))] := hl
  have hL : OkL B0 [] := OkL.nil
  refine W.vaS hL (fun hS => ?_)
  refine va_gets hx hb hE.2.2.1 hS hown (hts _ mJ0_isLatin1_aae02_1) (fun _ h9 => h9) dJ0_isLatin1_aae02_0 ?_
  refine lv_if_eq (tgt := 17) hx hb dJ0_isLatin1_aae02_3 (by decide) (fun c9 => absurd c9 (by decide)) (fun _ => ?_)
  refine lv_aload_n hx hb dJ0_isLatin1_aae02_6 rfl (lv_at hl 0 rfl) ?_
  refine W.vaS hL (fun hS => ?_)
  refine vk_getf hx hb (hE.2.1 _ hi9).2.1 hS hown (hts _ mJ0_isLatin1_aae02_2) (fun _ h9 => h9) dJ0_isLatin1_aae02_7 ?_
  refine lv_if_ne (tgt := 17) hx hb dJ0_isLatin1_aae02_10 (by decide) (fun c9 => absurd (by decide) c9) (fun _ => ?_)
  refine lv_iconst (v := 1) hx hb dJ0_isLatin1_aae02_13 (by decide) ?_
  refine lv_goto (tgt := 18) hx hb dJ0_isLatin1_aae02_14 (by decide) ?_
  exact en_i hx hb hr hlocks hL rfl (Nat.zero_le _) (Nat.zero_le _) dJ0_isLatin1_aae02_18 (⟨rfl, rfl⟩)
theorem mJ0_length_8abf5_1 : (.fieldLink RJ0 9 "java/lang/String" "value" "[B" : Cond) ∈ wsJ0_length_8abf5 := List.mem_of_getElem? (i := 1) (by decide +kernel)
theorem hdJ0_coder_7d493_v : yJ0_coder_7d493.cls = RJ0 ∧ yJ0_coder_7d493.cls ≠ "java/lang/invoke/MethodHandle" ∧ yJ0_coder_7d493.cls ≠ "java/lang/invoke/VarHandle" ∧ (parseMethodDescriptor yJ0_coder_7d493.desc).map (fun d => d.parameters.length) = some 0 := by decide +kernel
set_option maxHeartbeats 4000000 in
set_option maxRecDepth 100000 in
theorem c_J0_length_8abf5 {l : Launch} {D : va_G} {cs : Nat → ClassId} {B0 T : Nat} {κ : KM} {H0 : Heap} (hT : WT B0 D cs T κ H0) {i : Nat} (hi9 : i ∈ nW) : KC l yJ0_length_8abf5 wsJ0_length_8abf5 1 20 0 0 D cs B0 H0 [.ref (cs (100 + i))] (Qi (fun r H => H = H0 ∧ r = nI (nT i))) := by
  refine KC.of cJ0_length_8abf5 1 (some .int) (by decide) rfl (Nat.le_of_ble_eq_true rfl) ?_
  intro p e s m below meth c ls hx hb hr hml hown hts hlocks hin hN hE hH0 hl
  have hown : s.vm.findClass RJ0 = some m.cls := hown
  have hl : lv_has ls 1 [(0, .ref (cs (100 + i)))] := hl
  have hL : OkL B0 [] := OkL.nil
  refine lv_aload_n hx hb dJ0_length_8abf5_0 rfl (lv_at hl 0 rfl) ?_
  refine W.vaS hL (fun hS => ?_)
  refine vk_getf hx hb (hE.2.1 _ hi9).2.2.1 hS hown (hts _ mJ0_length_8abf5_1) (fun _ h9 => h9) dJ0_length_8abf5_1 ?_
  refine W.vaS hL (fun hS => ?_)
  obtain ⟨f9, hf9, hT9⟩ := (hE.2.1 _ hi9).2.2.2
  refine va_tlen (v := nI (nT i)) hx hb hT9 hS rfl dJ0_length_8abf5_4 ?_
  have hn9 := nT_le _ hi9
  refine lv_aload_n hx hb dJ0_length_8abf5_5 rfl (lv_at hl 0 rfl) ?_
  refine W.old hL (fun hold => ?_)
  refine cv_i (As := []) (rest := [.int (nI (nT i))]) (b := (cs (100 + i))) ⟨hx, hb, hml, hown, hts⟩ (c_J0_coder_7d493 hT (i := i) hi9) (cwV 0 hts gJ0_length_8abf5_J0_coder_7d493 rfl rfl rfl hdJ0_coder_7d493_v ⟨Nat.le_of_ble_eq_true rfl, Nat.le_of_ble_eq_true rfl⟩) hN hE hL (sx_rec (hE.2.1 _ hi9) hold) rfl rfl hl.1 (Nat.le_of_ble_eq_true rfl) dJ0_length_8abf5_6 (Nat.zero_le _) (Nat.zero_le _) (fun r1357 H1 locs hL hqr1357 => ?_)
  obtain ⟨h9, hqr1357⟩ := hqr1357; replace h9 := h9.symm; subst h9
  obtain rfl := hqr1357
  refine lv_ishr hx hb dJ0_length_8abf5_9 ?_
  refine tp_i (nI (nT i)) (shr0 _) ?_
  exact en_i hx hb hr hlocks hL rfl (Nat.zero_le _) (Nat.zero_le _) dJ0_length_8abf5_10 (⟨rfl, rfl⟩)
set_option maxHeartbeats 4000000 in
set_option maxRecDepth 100000 in
theorem c_J3_checkIndex_8e157 {l : Launch} {D : va_G} {cs : Nat → ClassId} {B0 T : Nat} {κ : KM} {H0 : Heap} (hT : WT B0 D cs T κ H0) {k n : Nat} {x : Value} (hx9 : x = .null ∨ ∃ a, x = .ref a) (hk : k < n) (hn : n ≤ 8) : KC l yJ3_checkIndex_8e157 wsJ3_checkIndex_8e157 0 0 0 0 D cs B0 H0 [.int (nI k), .int (nI n), x] (Qi (fun _ H => H = H0)) := by
  refine KC.of cJ3_checkIndex_8e157 3 (some .int) (by decide) rfl (by rcases hx9 with rfl | ⟨_, rfl⟩ <;> exact Nat.le_of_ble_eq_true rfl) ?_
  intro p e s m below meth c ls hx hb hr hml hown hts hlocks hin hN hE hH0 hl
  have hown : s.vm.findClass RJ3 = some m.cls := hown
  have hl : lv_has ls 3 [(0, .int (nI k)), (1, .int (nI n)), (2, x)] := hl
  have hL : OkL B0 [] := OkL.nil
  refine lv_iload_n hx hb dJ3_checkIndex_8e157_0 rfl (lv_at hl 0 rfl) ?_
  refine lv_if_lt (tgt := 9) hx hb dJ3_checkIndex_8e157_1 (by decide) (fun c1358 => ?_) (fun c1358 => ?_)
  · have c1358 : k < 0 := (nI_ltI (a := k) (b := 0) (by omega) (by omega)).mp c1358
    exact absurd c1358 (by omega)
  · have c1358 : ¬ k < 0 := fun h9 => c1358 ((nI_ltI (a := k) (b := 0) (by omega) (by omega)).mpr h9)
    refine lv_iload_n hx hb dJ3_checkIndex_8e157_4 rfl (lv_at hl 0 rfl) ?_
    refine lv_iload_n hx hb dJ3_checkIndex_8e157_5 rfl (lv_at hl 1 rfl) ?_
    refine lv_icmp_lt (tgt := 16) hx hb dJ3_checkIndex_8e157_6 (by decide) (fun c1359 => ?_) (fun c1359 => ?_)
    · have c1359 : k < n := (nI_ltI (a := k) (b := n) (by omega) (by omega)).mp c1359
      refine lv_iload_n hx hb dJ3_checkIndex_8e157_16 rfl (lv_at hl 0 rfl) ?_
      exact en_i hx hb hr hlocks hL rfl (Nat.zero_le _) (Nat.zero_le _) dJ3_checkIndex_8e157_17 (rfl)
    · have c1359 : ¬ k < n := fun h9 => c1359 ((nI_ltI (a := k) (b := n) (by omega) (by omega)).mpr h9)
      exact absurd (by omega) c1359
theorem mJ0_checkIndex_df160_1 : (.fieldLink RJ0 1053 "jdk/internal/util/Preconditions" "SIOOBE_FORMATTER" "Ljava/util/function/BiFunction;" : Cond) ∈ wsJ0_checkIndex_df160 := List.mem_of_getElem? (i := 1) (by decide +kernel)
theorem hdJ3_checkIndex_8e157_o : yJ3_checkIndex_8e157.cls ≠ "java/lang/invoke/MethodHandle" ∧ yJ3_checkIndex_8e157.cls ≠ "java/lang/invoke/VarHandle" ∧ (parseMethodDescriptor yJ3_checkIndex_8e157.desc).map (fun d => d.parameters.length) = some 3 := by decide +kernel
set_option maxHeartbeats 4000000 in
set_option maxRecDepth 100000 in
theorem c_J0_checkIndex_df160 {l : Launch} {D : va_G} {cs : Nat → ClassId} {B0 T : Nat} {κ : KM} {H0 : Heap} (hT : WT B0 D cs T κ H0) {k n : Nat} (hk : k < n) (hn : n ≤ 8) : KC l yJ0_checkIndex_df160 wsJ0_checkIndex_df160 1 22 0 0 D cs B0 H0 [.int (nI k), .int (nI n)] (Qv (fun H => H = H0)) := by
  refine KC.of cJ0_checkIndex_df160 2 none (by decide) rfl (Nat.le_of_ble_eq_true rfl) ?_
  intro p e s m below meth c ls hx hb hr hml hown hts hlocks hin hN hE hH0 hl
  have hown : s.vm.findClass RJ0 = some m.cls := hown
  have hl : lv_has ls 2 [(0, .int (nI k)), (1, .int (nI n))] := hl
  have hL : OkL B0 [] := OkL.nil
  refine lv_iload_n hx hb dJ0_checkIndex_df160_0 rfl (lv_at hl 0 rfl) ?_
  refine lv_iload_n hx hb dJ0_checkIndex_df160_1 rfl (lv_at hl 1 rfl) ?_
  refine W.vaS hL (fun hS => ?_)
  rcases hE.2.2.2 with hz9 | ⟨t9, hz9⟩
  · refine va_gets hx hb hz9 hS hown (hts _ mJ0_checkIndex_df160_1) (fun _ h9 => h9) dJ0_checkIndex_df160_2 ?_
    refine cs_i (As := [.int (nI k), .int (nI n), .null]) (rest := []) ⟨hx, hb, hml, hown, hts⟩ (c_J3_checkIndex_8e157 hT (k := k) (n := n) (x := .null) ((by first | exact Or.inl rfl | exact Or.inr ⟨_, rfl⟩)) (by first | omega | decide | assumption) (by first | omega | decide | assumption)) (va_cwS 3 hts gJ0_checkIndex_df160_J3_checkIndex_8e157 rfl rfl rfl hdJ3_checkIndex_8e157_o ⟨Nat.le_of_ble_eq_true rfl, Nat.le_of_ble_eq_true rfl⟩) hN hE hL rfl rfl hl.1 (Nat.le_of_ble_eq_true rfl) dJ0_checkIndex_df160_5 (Nat.zero_le _) (Nat.zero_le _) (fun r1360 H1 locs hL hqr1360 => ?_)
    obtain rfl := hqr1360.symm
    refine lv_pop hx hb dJ0_checkIndex_df160_8 rfl ?_
    exact en_v hx hb hr hlocks hL (Nat.zero_le _) (Nat.zero_le _) dJ0_checkIndex_df160_9 (rfl)
  · refine va_gets hx hb hz9 hS hown (hts _ mJ0_checkIndex_df160_1) (fun _ h9 => h9) dJ0_checkIndex_df160_2 ?_
    refine cs_i (As := [.int (nI k), .int (nI n), .ref t9]) (rest := []) ⟨hx, hb, hml, hown, hts⟩ (c_J3_checkIndex_8e157 hT (k := k) (n := n) (x := .ref t9) ((by first | exact Or.inl rfl | exact Or.inr ⟨_, rfl⟩)) (by first | omega | decide | assumption) (by first | omega | decide | assumption)) (va_cwS 3 hts gJ0_checkIndex_df160_J3_checkIndex_8e157 rfl rfl rfl hdJ3_checkIndex_8e157_o ⟨Nat.le_of_ble_eq_true rfl, Nat.le_of_ble_eq_true rfl⟩) hN hE hL rfl rfl hl.1 (Nat.le_of_ble_eq_true rfl) dJ0_checkIndex_df160_5 (Nat.zero_le _) (Nat.zero_le _) (fun r1361 H1 locs hL hqr1361 => ?_)
    obtain rfl := hqr1361.symm
    refine lv_pop hx hb dJ0_checkIndex_df160_8 rfl ?_
    exact en_v hx hb hr hlocks hL (Nat.zero_le _) (Nat.zero_le _) dJ0_checkIndex_df160_9 (rfl)
theorem hdJ0_checkIndex_df160_o : yJ0_checkIndex_df160.cls ≠ "java/lang/invoke/MethodHandle" ∧ yJ0_checkIndex_df160.cls ≠ "java/lang/invoke/VarHandle" ∧ (parseMethodDescriptor yJ0_checkIndex_df160.desc).map (fun d => d.parameters.length) = some 2 := by decide +kernel
set_option maxHeartbeats 4000000 in
set_option maxRecDepth 100000 in
theorem c_J1_charAt_3b067 {l : Launch} {D : va_G} {cs : Nat → ClassId} {B0 T : Nat} {κ : KM} {H0 : Heap} (hT : WT B0 D cs T κ H0) {i : Nat} (hi9 : i ∈ nW) {k : Nat} (hk : k < nT i) : KC l yJ1_charAt_3b067 wsJ1_charAt_3b067 2 43 0 0 D cs B0 H0 [.ref (cs (200 + i)), .int (nI k)] (Qi (fun r H => H = H0 ∧ ∃ n, n ≤ 255 ∧ r = nI n)) := by
  refine KC.of cJ1_charAt_3b067 2 (some .char) (by decide) rfl (Nat.le_of_ble_eq_true rfl) ?_
  intro p e s m below meth c ls hx hb hr hml hown hts hlocks hin hN hE hH0 hl
  have hown : s.vm.findClass RJ1 = some m.cls := hown
  have hl : lv_has ls 2 [(0, .ref (cs (200 + i))), (1, .int (nI k))] := hl
  have hL : OkL B0 [] := OkL.nil
  refine lv_iload_n hx hb dJ1_charAt_3b067_0 rfl (lv_at hl 1 rfl) ?_
  refine lv_aload_n hx hb dJ1_charAt_3b067_1 rfl (lv_at hl 0 rfl) ?_
  refine W.vaS hL (fun hS => ?_)
  obtain ⟨f9, hf9, hT9⟩ := (hE.2.1 _ hi9).2.2.2
  refine va_tlen (v := nI (nT i)) hx hb hT9 hS rfl dJ1_charAt_3b067_2 ?_
  have hn9 := nT_le _ hi9
  refine cs_v (As := [.int (nI k), .int (nI (nT i))]) (rest := []) ⟨hx, hb, hml, hown, hts⟩ (c_J0_checkIndex_df160 hT (k := k) (n := (nT i)) (by first | omega | decide | assumption) (by first | omega | decide | assumption)) (va_cwS 2 hts gJ1_charAt_3b067_J0_checkIndex_df160 rfl rfl rfl hdJ0_checkIndex_df160_o ⟨Nat.le_of_ble_eq_true rfl, Nat.le_of_ble_eq_true rfl⟩) hN hE hL rfl rfl hl.1 (Nat.le_of_ble_eq_true rfl) dJ1_charAt_3b067_3 (Nat.zero_le _) (Nat.zero_le _) (fun H1 locs hL hqr1362 => ?_)
  obtain rfl := hqr1362.symm
  refine lv_aload_n hx hb dJ1_charAt_3b067_6 rfl (lv_at hl 0 rfl) ?_
  refine lv_iload_n hx hb dJ1_charAt_3b067_7 rfl (lv_at hl 1 rfl) ?_
  refine W.vaS hL (fun hS => ?_)
  obtain ⟨f9, hf9, hT9⟩ := (hE.2.1 _ hi9).2.2.2
  have hn9 := nT_le _ hi9
  obtain ⟨x1363, hb9⟩ := hf9 (k) (by omega)
  refine va_tb (v := .int x1363) hx hb hT9 hS (vp_in_nI (n := k) (N := nT i) (by omega) (by omega)) (by rw [show ((nI k) : Int32).toNatClampNeg = k from nI_clamp (n := k) (by omega)]; exact hb9) dJ1_charAt_3b067_8 ?_
  refine lv_sipush (v := 255) hx hb dJ1_charAt_3b067_9 (by decide) ?_
  refine lv_iand hx hb dJ1_charAt_3b067_12 ?_
  have hj1364 := m255_lt x1363
  refine tp_i (nI (m255 x1363)) (and255 x1363) ?_
  refine lv_i2c (v := (nI (m255 x1363))) hx hb dJ1_charAt_3b067_13 (i2cn (by omega)) ?_
  exact en_i hx hb hr hlocks hL (nch (by omega)) (Nat.zero_le _) (Nat.zero_le _) dJ1_charAt_3b067_14 (⟨rfl, _, (by omega), rfl⟩)
theorem hdJ0_isLatin1_aae02_v : yJ0_isLatin1_aae02.cls = RJ0 ∧ yJ0_isLatin1_aae02.cls ≠ "java/lang/invoke/MethodHandle" ∧ yJ0_isLatin1_aae02.cls ≠ "java/lang/invoke/VarHandle" ∧ (parseMethodDescriptor yJ0_isLatin1_aae02.desc).map (fun d => d.parameters.length) = some 0 := by decide +kernel
theorem mJ0_charAt_5068e_1 : (.fieldLink RJ0 9 "java/lang/String" "value" "[B" : Cond) ∈ wsJ0_charAt_5068e := List.mem_of_getElem? (i := 1) (by decide +kernel)
theorem hdJ1_charAt_3b067_o : yJ1_charAt_3b067.cls ≠ "java/lang/invoke/MethodHandle" ∧ yJ1_charAt_3b067.cls ≠ "java/lang/invoke/VarHandle" ∧ (parseMethodDescriptor yJ1_charAt_3b067.desc).map (fun d => d.parameters.length) = some 2 := by decide +kernel
set_option maxHeartbeats 4000000 in
set_option maxRecDepth 100000 in
theorem c_J0_charAt_5068e {l : Launch} {D : va_G} {cs : Nat → ClassId} {B0 T : Nat} {κ : KM} {H0 : Heap} (hT : WT B0 D cs T κ H0) {i : Nat} (hi9 : i ∈ nW) {k : Nat} (hk : k < nT i) : KC l yJ0_charAt_5068e wsJ0_charAt_5068e 3 64 0 0 D cs B0 H0 [.ref (cs (100 + i)), .int (nI k)] (Qi (fun r H => H = H0 ∧ ∃ n, n ≤ 255 ∧ r = nI n)) := by
  refine KC.of cJ0_charAt_5068e 2 (some .char) (by decide) rfl (Nat.le_of_ble_eq_true rfl) ?_
  intro p e s m below meth c ls hx hb hr hml hown hts hlocks hin hN hE hH0 hl
  have hown : s.vm.findClass RJ0 = some m.cls := hown
  have hl : lv_has ls 2 [(0, .ref (cs (100 + i))), (1, .int (nI k))] := hl
  have hL : OkL B0 [] := OkL.nil
  refine lv_aload_n hx hb dJ0_charAt_5068e_0 rfl (lv_at hl 0 rfl) ?_
  refine W.old hL (fun hold => ?_)
  refine cv_i (As := []) (rest := []) (b := (cs (100 + i))) ⟨hx, hb, hml, hown, hts⟩ (c_J0_isLatin1_aae02 hT (i := i) hi9) (cwV 0 hts gJ0_charAt_5068e_J0_isLatin1_aae02 rfl rfl rfl hdJ0_isLatin1_aae02_v ⟨Nat.le_of_ble_eq_true rfl, Nat.le_of_ble_eq_true rfl⟩) hN hE hL (sx_rec (hE.2.1 _ hi9) hold) rfl rfl hl.1 (Nat.le_of_ble_eq_true rfl) dJ0_charAt_5068e_1 (Nat.zero_le _) (Nat.zero_le _) (fun r1365 H1 locs hL hqr1365 => ?_)
  obtain ⟨h9, hqr1365⟩ := hqr1365; replace h9 := h9.symm; subst h9
  obtain rfl := hqr1365
  refine lv_if_eq (tgt := 16) hx hb dJ0_charAt_5068e_4 (by decide) (fun c9 => absurd c9 (by decide)) (fun _ => ?_)
  refine lv_aload_n hx hb dJ0_charAt_5068e_7 rfl (lv_at hl 0 rfl) ?_
  refine W.vaS hL (fun hS => ?_)
  refine vk_getf hx hb (hE.2.1 _ hi9).2.2.1 hS hown (hts _ mJ0_charAt_5068e_1) (fun _ h9 => h9) dJ0_charAt_5068e_8 ?_
  refine lv_iload_n hx hb dJ0_charAt_5068e_11 rfl (lv_at hl 1 rfl) ?_
  refine cs_i (As := [.ref (cs (200 + i)), .int (nI k)]) (rest := []) ⟨hx, hb, hml, hown, hts⟩ (c_J1_charAt_3b067 hT (i := i) hi9 (k := k) (by first | omega | decide | assumption)) (va_cwS 2 hts gJ0_charAt_5068e_J1_charAt_3b067 rfl rfl rfl hdJ1_charAt_3b067_o ⟨Nat.le_of_ble_eq_true rfl, Nat.le_of_ble_eq_true rfl⟩) hN hE hL rfl rfl hl.1 (Nat.le_of_ble_eq_true rfl) dJ0_charAt_5068e_12 (Nat.zero_le _) (Nat.zero_le _) (fun r1366 H1 locs hL hqr1366 => ?_)
  obtain ⟨h9, hqr1366⟩ := hqr1366; replace h9 := h9.symm; subst h9
  obtain ⟨n1367, h1368, rfl⟩ := hqr1366
  exact en_i hx hb hr hlocks hL (nch (by omega)) (Nat.zero_le _) (Nat.zero_le _) dJ0_charAt_5068e_15 (⟨rfl, _, (by omega), rfl⟩)
theorem mX5_hasRoomFor_1 : (.fieldLink RX5 19 "OneBeat$Reader" "stored" "I" : Cond) ∈ wsX5_hasRoomFor := List.mem_of_getElem? (i := 1) (by decide +kernel)
theorem iX5_hasRoomFor_5 : ∀ w ∈ wsX50, w ∈ wsX5_hasRoomFor := fun w h => List.mem_of_mem_drop (List.mem_of_mem_take ((show wsX50 = (wsX5_hasRoomFor.drop 3).take 14 by decide +kernel) ▸ h))
theorem mX5_hasRoomFor_2 : (.fieldLink RX5 11 "OneBeat$Reader" "text" "[B" : Cond) ∈ wsX5_hasRoomFor := List.mem_of_getElem? (i := 2) (by decide +kernel)
set_option maxHeartbeats 4000000 in
set_option maxRecDepth 100000 in
theorem c_X5_hasRoomFor {l : Launch} {D : va_G} {cs : Nat → ClassId} {B0 T : Nat} {κ : KM} {H0 : Heap} (hT : WT B0 D cs T κ H0) {w : Nat} (hw : T2 κ w 6 10) {n : Nat} (hn : n ≤ 600) : KC l yX5_hasRoomFor wsX5_hasRoomFor 0 0 0 0 D cs B0 H0 [.ref w, .int (nI n)] (Qi (fun r H => H = H0 ∧ ((r = 0 ∧ 600 < (κ w).2.2.1 + n) ∨ (r = 1 ∧ (κ w).2.2.1 + n ≤ 600)))) := by
  refine KC.of cX5_hasRoomFor 2 (some .boolean) (by decide) rfl (Nat.le_of_ble_eq_true rfl) ?_
  intro p e s m below meth c ls hx hb hr hml hown hts hlocks hin hN hE hH0 hl
  have hown : s.vm.findClass RX5 = some m.cls := hown
  have hl : lv_has ls 2 [(0, .ref w), (1, .int (nI n))] := hl
  have hL : OkL B0 [] := OkL.nil
  refine lv_aload_n hx hb dX5_hasRoomFor_0 rfl (lv_at hl 0 rfl) ?_
  obtain ⟨hb1369, e1369, hat1369, hk1369⟩ := hT.o6 hw.1
  obtain ⟨f1369_0, f1369_2, f1369_3, f1369_4, f1369_5, f1369_6, f1369_7, f1369_8, f1369_9, f1369_10, f1369_11, f1369_12, f1369_13, rfl, c1369_1, c1369_2, c1369_3, c1369_5, c1369_10, t1369_0, t1369_9, c1369_11, c1369_p2⟩ := hk1369
  have hP : va_P D vwCl [(w, .inr (5, [.ref f1369_0, .int (nI ((κ w).2.2.1)), .int (nI f1369_2), .int (nI f1369_3), .int f1369_4, .int (nI f1369_5), .int f1369_6, .int f1369_7, .int f1369_8, .ref f1369_9, .int (nI f1369_10), f1369_11, .int f1369_12, .int f1369_13]))] _ := va_P.cons hat1369 va_P.nil
  refine va_get (D := D) (ci := 5) (v := .int (nI ((κ w).2.2.1))) (C := RX5) (T := TX5) (N := 14) hx hb hts iX5_hasRoomFor_5 hown hN.1 hP 0 rfl rfl 1 (by decide) (hts _ mX5_hasRoomFor_1) (fun _ h9 => h9) rfl dX5_hasRoomFor_1 ?_
  refine lv_iload_n hx hb dX5_hasRoomFor_4 rfl (lv_at hl 1 rfl) ?_
  refine lv_iadd hx hb dX5_hasRoomFor_5 ?_
  refine tp_i (nI (((κ w).2.2.1) + n)) (nI_add ((κ w).2.2.1) n) ?_
  refine lv_aload_n hx hb dX5_hasRoomFor_6 rfl (lv_at hl 0 rfl) ?_
  refine va_get (D := D) (ci := 5) (v := .ref f1369_0) (C := RX5) (T := TX5) (N := 14) hx hb hts iX5_hasRoomFor_5 hown hN.1 hP 0 rfl rfl 0 (by decide) (hts _ mX5_hasRoomFor_2) (fun _ h9 => h9) rfl dX5_hasRoomFor_7 ?_
  obtain ⟨hb1370, e1370, hat1370, hk1370⟩ := hT.o16 t1369_0.1
  obtain ⟨g1370, rfl⟩ := hk1370
  have hP : va_P D vwCl [(f1369_0, .inl (cs 1, 600, .inl g1370)), (w, .inr (5, [.ref f1369_0, .int (nI ((κ w).2.2.1)), .int (nI f1369_2), .int (nI f1369_3), .int f1369_4, .int (nI f1369_5), .int f1369_6, .int f1369_7, .int f1369_8, .ref f1369_9, .int (nI f1369_10), f1369_11, .int f1369_12, .int f1369_13]))] _ := va_P.cons hat1370 hP
  refine va_alen (v := 600) hx hb hN.1 hP 0 1 rfl rfl rfl dX5_hasRoomFor_10 ?_
  refine lv_icmp_gt (tgt := 18) hx hb dX5_hasRoomFor_11 (by decide) (fun c1371 => ?_) (fun c1371 => ?_)
  · have c1371 : 600 < (((κ w).2.2.1) + n) := (nI_ltI (a := 600) (b := (((κ w).2.2.1) + n)) (by omega) (by omega)).mp c1371
    refine lv_iconst (v := 0) hx hb dX5_hasRoomFor_18 (by decide) ?_
    exact en_i hx hb hr hlocks hL rfl (Nat.zero_le _) (Nat.zero_le _) dX5_hasRoomFor_19 (⟨rfl, Or.inl ⟨rfl, by omega⟩⟩)
  · have c1371 : ¬ 600 < (((κ w).2.2.1) + n) := fun h9 => c1371 ((nI_ltI (a := 600) (b := (((κ w).2.2.1) + n)) (by omega) (by omega)).mpr h9)
    refine lv_iconst (v := 1) hx hb dX5_hasRoomFor_14 (by decide) ?_
    refine lv_goto (tgt := 19) hx hb dX5_hasRoomFor_15 (by decide) ?_
    exact en_i hx hb hr hlocks hL rfl (Nat.zero_le _) (Nat.zero_le _) dX5_hasRoomFor_19 (⟨rfl, Or.inr ⟨rfl, by omega⟩⟩)
theorem mX5_store_1 : (.fieldLink RX5 19 "OneBeat$Reader" "stored" "I" : Cond) ∈ wsX5_store := List.mem_of_getElem? (i := 1) (by decide +kernel)
theorem iX5_store_5 : ∀ w ∈ wsX50, w ∈ wsX5_store := fun w h => List.mem_of_mem_drop (List.mem_of_mem_take ((show wsX50 = (wsX5_store.drop 3).take 14 by decide +kernel) ▸ h))
theorem mX5_store_2 : (.fieldLink RX5 11 "OneBeat$Reader" "text" "[B" : Cond) ∈ wsX5_store := List.mem_of_getElem? (i := 2) (by decide +kernel)
set_option maxHeartbeats 4000000 in
set_option maxRecDepth 100000 in
theorem c_X5_store {l : Launch} {D : va_G} {cs : Nat → ClassId} {B0 T : Nat} {κ : KM} {H0 : Heap} (hT : WT B0 D cs T κ H0) {w : Nat} (hw : T2 κ w 6 10) {x : Int32} (hs4 : (κ w).2.2.1 + 4 ≤ 600) : KC l yX5_store wsX5_store 0 0 0 0 D cs B0 H0 [.ref w, .int x] (Qv (fun H => WT B0 D cs T (kp κ w ((κ w).2.2.1 + 4) (κ w).2.2.2) H ∧ Fr B0 [10] κ H0 H)) := by
  refine KC.of cX5_store 3 none (by decide) rfl (Nat.le_of_ble_eq_true rfl) ?_
  intro p e s m below meth c ls hx hb hr hml hown hts hlocks hin hN hE hH0 hl
  have hown : s.vm.findClass RX5 = some m.cls := hown
  have hl : lv_has ls 3 [(0, .ref w), (1, .int x)] := hl
  have hL : OkL B0 [] := OkL.nil
  have hF : Fr B0 [10] κ H0 H0 := Fr.rf
  refine lv_bipush (v := 24) hx hb dX5_store_0 (by decide) ?_
  refine lv_istore_n (lv' := [(2, .int 24), (0, .ref w), (1, .int x)]) hx hb dX5_store_2 rfl hl (by decide) rfl (fun ls hl => ?_)
  refine lv_iload_n hx hb dX5_store_3 rfl (lv_at hl 0 rfl) ?_
  refine lv_if_lt (tgt := 48) hx hb dX5_store_4 (by decide) (fun c9 => absurd c9 (by decide)) (fun _ => ?_)
  refine lv_aload_n hx hb dX5_store_7 rfl (lv_at hl 1 rfl) ?_
  obtain ⟨hb1372, e1372, hat1372, hk1372⟩ := hT.o6 hw.1
  obtain ⟨f1372_0, f1372_2, f1372_3, f1372_4, f1372_5, f1372_6, f1372_7, f1372_8, f1372_9, f1372_10, f1372_11, f1372_12, f1372_13, rfl, c1372_1, c1372_2, c1372_3, c1372_5, c1372_10, t1372_0, t1372_9, c1372_11, c1372_p2⟩ := hk1372
  have hP : va_P D vwCl [(w, .inr (5, [.ref f1372_0, .int (nI ((κ w).2.2.1)), .int (nI f1372_2), .int (nI f1372_3), .int f1372_4, .int (nI f1372_5), .int f1372_6, .int f1372_7, .int f1372_8, .ref f1372_9, .int (nI f1372_10), f1372_11, .int f1372_12, .int f1372_13]))] _ := va_P.cons hat1372 va_P.nil
  refine va_get (D := D) (ci := 5) (v := .int (nI ((κ w).2.2.1))) (C := RX5) (T := TX5) (N := 14) hx hb hts iX5_store_5 hown hN.1 hP 0 rfl rfl 1 (by decide) (hts _ mX5_store_1) (fun _ h9 => h9) rfl dX5_store_8 ?_
  refine lv_aload_n hx hb dX5_store_11 rfl (lv_at hl 1 rfl) ?_
  refine va_get (D := D) (ci := 5) (v := .ref f1372_0) (C := RX5) (T := TX5) (N := 14) hx hb hts iX5_store_5 hown hN.1 hP 0 rfl rfl 0 (by decide) (hts _ mX5_store_2) (fun _ h9 => h9) rfl dX5_store_12 ?_
  obtain ⟨hb1373, e1373, hat1373, hk1373⟩ := hT.o16 t1372_0.1
  obtain ⟨g1373, rfl⟩ := hk1373
  have hP : va_P D vwCl [(f1372_0, .inl (cs 1, 600, .inl g1373)), (w, .inr (5, [.ref f1372_0, .int (nI ((κ w).2.2.1)), .int (nI f1372_2), .int (nI f1372_3), .int f1372_4, .int (nI f1372_5), .int f1372_6, .int f1372_7, .int f1372_8, .ref f1372_9, .int (nI f1372_10), f1372_11, .int f1372_12, .int f1372_13]))] _ := va_P.cons hat1373 hP
  refine va_alen (v := 600) hx hb hN.1 hP 0 1 rfl rfl rfl dX5_store_15 ?_
  refine lv_icmp_ge (tgt := 48) hx hb dX5_store_16 (by decide) (fun c1374 => ?_) (fun c1374 => ?_)
  · have c1374 : 600 ≤ ((κ w).2.2.1) := (nI_leI (a := 600) (b := ((κ w).2.2.1)) (by omega) (by omega)).mp c1374
    exact absurd c1374 (by omega)
  · have c1374 : ¬ 600 ≤ ((κ w).2.2.1) := fun h9 => c1374 ((nI_leI (a := 600) (b := ((κ w).2.2.1)) (by omega) (by omega)).mpr h9)
    refine lv_aload_n hx hb dX5_store_19 rfl (lv_at hl 1 rfl) ?_
    refine va_get (D := D) (ci := 5) (v := .ref f1372_0) (C := RX5) (T := TX5) (N := 14) hx hb hts iX5_store_5 hown hN.1 hP 1 rfl rfl 0 (by decide) (hts _ mX5_store_2) (fun _ h9 => h9) rfl dX5_store_20 ?_
    refine lv_aload_n hx hb dX5_store_23 rfl (lv_at hl 1 rfl) ?_
    refine va_get (D := D) (ci := 5) (v := .int (nI ((κ w).2.2.1))) (C := RX5) (T := TX5) (N := 14) hx hb hts iX5_store_5 hown hN.1 hP 1 rfl rfl 1 (by decide) (hts _ mX5_store_1) (fun _ h9 => h9) rfl dX5_store_24 ?_
    refine lv_iload_n hx hb dX5_store_27 rfl (lv_at hl 2 rfl) ?_
    refine lv_iload_n hx hb dX5_store_28 rfl (lv_at hl 0 rfl) ?_
    refine lv_ishr hx hb dX5_store_29 ?_
    refine gn_i (fun x1375 => ?_)
    refine lv_i2b hx hb dX5_store_30 rfl ?_
    refine gn_i (fun x1376 => ?_)
    have hB : Bx B0 D _ [(f1372_0, .inl (cs 1, 600, .inl g1373)), (w, .inr (5, [.ref f1372_0, .int (nI ((κ w).2.2.1)), .int (nI f1372_2), .int (nI f1372_3), .int f1372_4, .int (nI f1372_5), .int f1372_6, .int f1372_7, .int f1372_8, .ref f1372_9, .int (nI f1372_10), f1372_11, .int f1372_12, .int f1372_13]))] [] _ _ := Bx.of (fun a => (κ a).1) hL hP (fa_c hb1373 (fa_c hb1372 fa_n)) (by simp only [List.map_cons, List.map_nil, t1372_0.1, hw.1]; decide)
    refine b_b hx hb hN hB 0 rfl (vp_in_nI (n := ((κ w).2.2.1)) (N := 600) (by omega) (by omega)) (.inl rfl) dX5_store_31 (fun H locs hB => ?_)
    rw [(show ((nI ((κ w).2.2.1)) : Int32).toNatClampNeg = ((κ w).2.2.1) from nI_clamp (n := ((κ w).2.2.1)) (by omega))] at hB
    have hB : Bx B0 D _ [(f1372_0, .inl (cs 1, 600, .inl (upd g1373 ((κ w).2.2.1) (vp_nar .byte x1376)))), (w, .inr (5, [.ref f1372_0, .int (nI ((κ w).2.2.1)), .int (nI f1372_2), .int (nI f1372_3), .int f1372_4, .int (nI f1372_5), .int f1372_6, .int f1372_7, .int f1372_8, .ref f1372_9, .int (nI f1372_10), f1372_11, .int f1372_12, .int f1372_13]))] [f1372_0] _ _ := hB
    generalize (upd g1373 ((κ w).2.2.1) (vp_nar .byte x1376)) = g1377 at hB
    refine lv_aload_n hx hb dX5_store_32 rfl (lv_at hl 1 rfl) ?_
    refine lv_dup hx hb dX5_store_33 rfl ?_
    refine va_get (D := D) (ci := 5) (v := .int (nI ((κ w).2.2.1))) (C := RX5) (T := TX5) (N := 14) hx hb hts iX5_store_5 hown hN.1 hB.1 1 rfl rfl 1 (by decide) (hts _ mX5_store_1) (fun _ h9 => h9) rfl dX5_store_34 ?_
    refine lv_iconst (v := 1) hx hb dX5_store_37 (by decide) ?_
    refine lv_iadd hx hb dX5_store_38 ?_
    refine tp_i (nI (((κ w).2.2.1) + 1)) (nI_add ((κ w).2.2.1) 1) ?_
    refine b_put (D := D) (ci := 5) (v := .int (nI (((κ w).2.2.1) + 1))) (ty := .int) (C := RX5) (T := TX5) (N := 14) hx hb hts iX5_store_5 tyX5 tyX5_ok nmX5 hown hN hB 1 rfl rfl 1 (by decide) (hts _ mX5_store_1) (fun _ h9 => h9) rfl (by decide +kernel) rfl rfl (Nat.le_of_ble_eq_true rfl) (.inl rfl) dX5_store_39 (fun H locs hB => ?_)
    have hB : Bx B0 D _ [(f1372_0, .inl (cs 1, 600, .inl g1377)), (w, .inr (5, [.ref f1372_0, .int (nI (((κ w).2.2.1) + 1)), .int (nI f1372_2), .int (nI f1372_3), .int f1372_4, .int (nI f1372_5), .int f1372_6, .int f1372_7, .int f1372_8, .ref f1372_9, .int (nI f1372_10), f1372_11, .int f1372_12, .int f1372_13]))] [w, f1372_0] _ _ := hB
    refine lv_iinc (v := 16) (lv' := [(2, .int 16), (0, .ref w), (1, .int x)]) hx hb dX5_store_42 hl (k := 0) rfl (by decide) (by decide) rfl (fun ls hl => ?_)
    refine lv_goto (tgt := 3) hx hb dX5_store_45 (by decide) ?_
    refine lv_iload_n hx hb dX5_store_3 rfl (lv_at hl 0 rfl) ?_
    refine lv_if_lt (tgt := 48) hx hb dX5_store_4 (by decide) (fun c9 => absurd c9 (by decide)) (fun _ => ?_)
    refine lv_aload_n hx hb dX5_store_7 rfl (lv_at hl 1 rfl) ?_
    refine va_get (D := D) (ci := 5) (v := .int (nI (((κ w).2.2.1) + 1))) (C := RX5) (T := TX5) (N := 14) hx hb hts iX5_store_5 hown hN.1 hB.1 1 rfl rfl 1 (by decide) (hts _ mX5_store_1) (fun _ h9 => h9) rfl dX5_store_8 ?_
    refine lv_aload_n hx hb dX5_store_11 rfl (lv_at hl 1 rfl) ?_
    refine va_get (D := D) (ci := 5) (v := .ref f1372_0) (C := RX5) (T := TX5) (N := 14) hx hb hts iX5_store_5 hown hN.1 hB.1 1 rfl rfl 0 (by decide) (hts _ mX5_store_2) (fun _ h9 => h9) rfl dX5_store_12 ?_
    refine va_alen (v := 600) hx hb hN.1 hB.1 0 1 rfl rfl rfl dX5_store_15 ?_
    refine lv_icmp_ge (tgt := 48) hx hb dX5_store_16 (by decide) (fun c1378 => ?_) (fun c1378 => ?_)
    · have c1378 : 600 ≤ (((κ w).2.2.1) + 1) := (nI_leI (a := 600) (b := (((κ w).2.2.1) + 1)) (by omega) (by omega)).mp c1378
      exact absurd c1378 (by omega)
    · have c1378 : ¬ 600 ≤ (((κ w).2.2.1) + 1) := fun h9 => c1378 ((nI_leI (a := 600) (b := (((κ w).2.2.1) + 1)) (by omega) (by omega)).mpr h9)
      refine lv_aload_n hx hb dX5_store_19 rfl (lv_at hl 1 rfl) ?_
      refine va_get (D := D) (ci := 5) (v := .ref f1372_0) (C := RX5) (T := TX5) (N := 14) hx hb hts iX5_store_5 hown hN.1 hB.1 1 rfl rfl 0 (by decide) (hts _ mX5_store_2) (fun _ h9 => h9) rfl dX5_store_20 ?_
      refine lv_aload_n hx hb dX5_store_23 rfl (lv_at hl 1 rfl) ?_
      refine va_get (D := D) (ci := 5) (v := .int (nI (((κ w).2.2.1) + 1))) (C := RX5) (T := TX5) (N := 14) hx hb hts iX5_store_5 hown hN.1 hB.1 1 rfl rfl 1 (by decide) (hts _ mX5_store_1) (fun _ h9 => h9) rfl dX5_store_24 ?_
      refine lv_iload_n hx hb dX5_store_27 rfl (lv_at hl 2 rfl) ?_
      refine lv_iload_n hx hb dX5_store_28 rfl (lv_at hl 0 rfl) ?_
      refine lv_ishr hx hb dX5_store_29 ?_
      refine gn_i (fun x1379 => ?_)
      refine lv_i2b hx hb dX5_store_30 rfl ?_
      refine gn_i (fun x1380 => ?_)
      refine b_b hx hb hN hB 0 rfl (vp_in_nI (n := (((κ w).2.2.1) + 1)) (N := 600) (by omega) (by omega)) (.inr ⟨rfl, List.mem_of_getElem? (i := 1) rfl⟩) dX5_store_31 (fun H locs hB => ?_)
      rw [(show ((nI (((κ w).2.2.1) + 1)) : Int32).toNatClampNeg = (((κ w).2.2.1) + 1) from nI_clamp (n := (((κ w).2.2.1) + 1)) (by omega))] at hB
      have hB : Bx B0 D _ [(f1372_0, .inl (cs 1, 600, .inl (upd g1377 (((κ w).2.2.1) + 1) (vp_nar .byte x1380)))), (w, .inr (5, [.ref f1372_0, .int (nI (((κ w).2.2.1) + 1)), .int (nI f1372_2), .int (nI f1372_3), .int f1372_4, .int (nI f1372_5), .int f1372_6, .int f1372_7, .int f1372_8, .ref f1372_9, .int (nI f1372_10), f1372_11, .int f1372_12, .int f1372_13]))] [w, f1372_0] _ _ := hB
      generalize (upd g1377 (((κ w).2.2.1) + 1) (vp_nar .byte x1380)) = g1381 at hB
      refine lv_aload_n hx hb dX5_store_32 rfl (lv_at hl 1 rfl) ?_
      refine lv_dup hx hb dX5_store_33 rfl ?_
      refine va_get (D := D) (ci := 5) (v := .int (nI (((κ w).2.2.1) + 1))) (C := RX5) (T := TX5) (N := 14) hx hb hts iX5_store_5 hown hN.1 hB.1 1 rfl rfl 1 (by decide) (hts _ mX5_store_1) (fun _ h9 => h9) rfl dX5_store_34 ?_
      refine lv_iconst (v := 1) hx hb dX5_store_37 (by decide) ?_
      refine lv_iadd hx hb dX5_store_38 ?_
      refine tp_i (nI ((((κ w).2.2.1) + 1) + 1)) (nI_add (((κ w).2.2.1) + 1) 1) ?_
      refine b_put (D := D) (ci := 5) (v := .int (nI ((((κ w).2.2.1) + 1) + 1))) (ty := .int) (C := RX5) (T := TX5) (N := 14) hx hb hts iX5_store_5 tyX5 tyX5_ok nmX5 hown hN hB 1 rfl rfl 1 (by decide) (hts _ mX5_store_1) (fun _ h9 => h9) rfl (by decide +kernel) rfl rfl (Nat.le_of_ble_eq_true rfl) (.inr ⟨rfl, List.mem_of_getElem? (i := 0) rfl⟩) dX5_store_39 (fun H locs hB => ?_)
      have hB : Bx B0 D _ [(f1372_0, .inl (cs 1, 600, .inl g1381)), (w, .inr (5, [.ref f1372_0, .int (nI ((((κ w).2.2.1) + 1) + 1)), .int (nI f1372_2), .int (nI f1372_3), .int f1372_4, .int (nI f1372_5), .int f1372_6, .int f1372_7, .int f1372_8, .ref f1372_9, .int (nI f1372_10), f1372_11, .int f1372_12, .int f1372_13]))] [w, f1372_0] _ _ := hB
      refine lv_iinc (v := 8) (lv' := [(2, .int 8), (0, .ref w), (1, .int x)]) hx hb dX5_store_42 hl (k := 0) rfl (by decide) (by decide) rfl (fun ls hl => ?_)
      refine lv_goto (tgt := 3) hx hb dX5_store_45 (by decide) ?_
      refine lv_iload_n hx hb dX5_store_3 rfl (lv_at hl 0 rfl) ?_
      refine lv_if_lt (tgt := 48) hx hb dX5_store_4 (by decide) (fun c9 => absurd c9 (by decide)) (fun _ => ?_)
      refine lv_aload_n hx hb dX5_store_7 rfl (lv_at hl 1 rfl) ?_
      refine va_get (D := D) (ci := 5) (v := .int (nI ((((κ w).2.2.1) + 1) + 1))) (C := RX5) (T := TX5) (N := 14) hx hb hts iX5_store_5 hown hN.1 hB.1 1 rfl rfl 1 (by decide) (hts _ mX5_store_1) (fun _ h9 => h9) rfl dX5_store_8 ?_
      refine lv_aload_n hx hb dX5_store_11 rfl (lv_at hl 1 rfl) ?_
      refine va_get (D := D) (ci := 5) (v := .ref f1372_0) (C := RX5) (T := TX5) (N := 14) hx hb hts iX5_store_5 hown hN.1 hB.1 1 rfl rfl 0 (by decide) (hts _ mX5_store_2) (fun _ h9 => h9) rfl dX5_store_12 ?_
      refine va_alen (v := 600) hx hb hN.1 hB.1 0 1 rfl rfl rfl dX5_store_15 ?_
      refine lv_icmp_ge (tgt := 48) hx hb dX5_store_16 (by decide) (fun c1382 => ?_) (fun c1382 => ?_)
      · have c1382 : 600 ≤ ((((κ w).2.2.1) + 1) + 1) := (nI_leI (a := 600) (b := ((((κ w).2.2.1) + 1) + 1)) (by omega) (by omega)).mp c1382
        exact absurd c1382 (by omega)
      · have c1382 : ¬ 600 ≤ ((((κ w).2.2.1) + 1) + 1) := fun h9 => c1382 ((nI_leI (a := 600) (b := ((((κ w).2.2.1) + 1) + 1)) (by omega) (by omega)).mpr h9)
        refine lv_aload_n hx hb dX5_store_19 rfl (lv_at hl 1 rfl) ?_
        refine va_get (D := D) (ci := 5) (v := .ref f1372_0) (C := RX5) (T := TX5) (N := 14) hx hb hts iX5_store_5 hown hN.1 hB.1 1 rfl rfl 0 (by decide) (hts _ mX5_store_2) (fun _ h9 => h9) rfl dX5_store_20 ?_
        refine lv_aload_n hx hb dX5_store_23 rfl (lv_at hl 1 rfl) ?_
        refine va_get (D := D) (ci := 5) (v := .int (nI ((((κ w).2.2.1) + 1) + 1))) (C := RX5) (T := TX5) (N := 14) hx hb hts iX5_store_5 hown hN.1 hB.1 1 rfl rfl 1 (by decide) (hts _ mX5_store_1) (fun _ h9 => h9) rfl dX5_store_24 ?_
        refine lv_iload_n hx hb dX5_store_27 rfl (lv_at hl 2 rfl) ?_
        refine lv_iload_n hx hb dX5_store_28 rfl (lv_at hl 0 rfl) ?_
        refine lv_ishr hx hb dX5_store_29 ?_
        refine gn_i (fun x1383 => ?_)
        refine lv_i2b hx hb dX5_store_30 rfl ?_
        refine gn_i (fun x1384 => ?_)
        refine b_b hx hb hN hB 0 rfl (vp_in_nI (n := ((((κ w).2.2.1) + 1) + 1)) (N := 600) (by omega) (by omega)) (.inr ⟨rfl, List.mem_of_getElem? (i := 1) rfl⟩) dX5_store_31 (fun H locs hB => ?_)
        rw [(show ((nI ((((κ w).2.2.1) + 1) + 1)) : Int32).toNatClampNeg = ((((κ w).2.2.1) + 1) + 1) from nI_clamp (n := ((((κ w).2.2.1) + 1) + 1)) (by omega))] at hB
        have hB : Bx B0 D _ [(f1372_0, .inl (cs 1, 600, .inl (upd g1381 ((((κ w).2.2.1) + 1) + 1) (vp_nar .byte x1384)))), (w, .inr (5, [.ref f1372_0, .int (nI ((((κ w).2.2.1) + 1) + 1)), .int (nI f1372_2), .int (nI f1372_3), .int f1372_4, .int (nI f1372_5), .int f1372_6, .int f1372_7, .int f1372_8, .ref f1372_9, .int (nI f1372_10), f1372_11, .int f1372_12, .int f1372_13]))] [w, f1372_0] _ _ := hB
        generalize (upd g1381 ((((κ w).2.2.1) + 1) + 1) (vp_nar .byte x1384)) = g1385 at hB
        refine lv_aload_n hx hb dX5_store_32 rfl (lv_at hl 1 rfl) ?_
        refine lv_dup hx hb dX5_store_33 rfl ?_
        refine va_get (D := D) (ci := 5) (v := .int (nI ((((κ w).2.2.1) + 1) + 1))) (C := RX5) (T := TX5) (N := 14) hx hb hts iX5_store_5 hown hN.1 hB.1 1 rfl rfl 1 (by decide) (hts _ mX5_store_1) (fun _ h9 => h9) rfl dX5_store_34 ?_
        refine lv_iconst (v := 1) hx hb dX5_store_37 (by decide) ?_
        refine lv_iadd hx hb dX5_store_38 ?_
        refine tp_i (nI (((((κ w).2.2.1) + 1) + 1) + 1)) (nI_add ((((κ w).2.2.1) + 1) + 1) 1) ?_
        refine b_put (D := D) (ci := 5) (v := .int (nI (((((κ w).2.2.1) + 1) + 1) + 1))) (ty := .int) (C := RX5) (T := TX5) (N := 14) hx hb hts iX5_store_5 tyX5 tyX5_ok nmX5 hown hN hB 1 rfl rfl 1 (by decide) (hts _ mX5_store_1) (fun _ h9 => h9) rfl (by decide +kernel) rfl rfl (Nat.le_of_ble_eq_true rfl) (.inr ⟨rfl, List.mem_of_getElem? (i := 0) rfl⟩) dX5_store_39 (fun H locs hB => ?_)
        have hB : Bx B0 D _ [(f1372_0, .inl (cs 1, 600, .inl g1385)), (w, .inr (5, [.ref f1372_0, .int (nI (((((κ w).2.2.1) + 1) + 1) + 1)), .int (nI f1372_2), .int (nI f1372_3), .int f1372_4, .int (nI f1372_5), .int f1372_6, .int f1372_7, .int f1372_8, .ref f1372_9, .int (nI f1372_10), f1372_11, .int f1372_12, .int f1372_13]))] [w, f1372_0] _ _ := hB
        refine lv_iinc (v := 0) (lv' := [(2, .int 0), (0, .ref w), (1, .int x)]) hx hb dX5_store_42 hl (k := 0) rfl (by decide) (by decide) rfl (fun ls hl => ?_)
        refine lv_goto (tgt := 3) hx hb dX5_store_45 (by decide) ?_
        refine lv_iload_n hx hb dX5_store_3 rfl (lv_at hl 0 rfl) ?_
        refine lv_if_lt (tgt := 48) hx hb dX5_store_4 (by decide) (fun c9 => absurd c9 (by decide)) (fun _ => ?_)
        refine lv_aload_n hx hb dX5_store_7 rfl (lv_at hl 1 rfl) ?_
        refine va_get (D := D) (ci := 5) (v := .int (nI (((((κ w).2.2.1) + 1) + 1) + 1))) (C := RX5) (T := TX5) (N := 14) hx hb hts iX5_store_5 hown hN.1 hB.1 1 rfl rfl 1 (by decide) (hts _ mX5_store_1) (fun _ h9 => h9) rfl dX5_store_8 ?_
        refine lv_aload_n hx hb dX5_store_11 rfl (lv_at hl 1 rfl) ?_
        refine va_get (D := D) (ci := 5) (v := .ref f1372_0) (C := RX5) (T := TX5) (N := 14) hx hb hts iX5_store_5 hown hN.1 hB.1 1 rfl rfl 0 (by decide) (hts _ mX5_store_2) (fun _ h9 => h9) rfl dX5_store_12 ?_
        refine va_alen (v := 600) hx hb hN.1 hB.1 0 1 rfl rfl rfl dX5_store_15 ?_
        refine lv_icmp_ge (tgt := 48) hx hb dX5_store_16 (by decide) (fun c1386 => ?_) (fun c1386 => ?_)
        · have c1386 : 600 ≤ (((((κ w).2.2.1) + 1) + 1) + 1) := (nI_leI (a := 600) (b := (((((κ w).2.2.1) + 1) + 1) + 1)) (by omega) (by omega)).mp c1386
          exact absurd c1386 (by omega)
        · have c1386 : ¬ 600 ≤ (((((κ w).2.2.1) + 1) + 1) + 1) := fun h9 => c1386 ((nI_leI (a := 600) (b := (((((κ w).2.2.1) + 1) + 1) + 1)) (by omega) (by omega)).mpr h9)
          refine lv_aload_n hx hb dX5_store_19 rfl (lv_at hl 1 rfl) ?_
          refine va_get (D := D) (ci := 5) (v := .ref f1372_0) (C := RX5) (T := TX5) (N := 14) hx hb hts iX5_store_5 hown hN.1 hB.1 1 rfl rfl 0 (by decide) (hts _ mX5_store_2) (fun _ h9 => h9) rfl dX5_store_20 ?_
          refine lv_aload_n hx hb dX5_store_23 rfl (lv_at hl 1 rfl) ?_
          refine va_get (D := D) (ci := 5) (v := .int (nI (((((κ w).2.2.1) + 1) + 1) + 1))) (C := RX5) (T := TX5) (N := 14) hx hb hts iX5_store_5 hown hN.1 hB.1 1 rfl rfl 1 (by decide) (hts _ mX5_store_1) (fun _ h9 => h9) rfl dX5_store_24 ?_
          refine lv_iload_n hx hb dX5_store_27 rfl (lv_at hl 2 rfl) ?_
          refine lv_iload_n hx hb dX5_store_28 rfl (lv_at hl 0 rfl) ?_
          refine lv_ishr hx hb dX5_store_29 ?_
          refine gn_i (fun x1387 => ?_)
          refine lv_i2b hx hb dX5_store_30 rfl ?_
          refine gn_i (fun x1388 => ?_)
          refine b_b hx hb hN hB 0 rfl (vp_in_nI (n := (((((κ w).2.2.1) + 1) + 1) + 1)) (N := 600) (by omega) (by omega)) (.inr ⟨rfl, List.mem_of_getElem? (i := 1) rfl⟩) dX5_store_31 (fun H locs hB => ?_)
          rw [(show ((nI (((((κ w).2.2.1) + 1) + 1) + 1)) : Int32).toNatClampNeg = (((((κ w).2.2.1) + 1) + 1) + 1) from nI_clamp (n := (((((κ w).2.2.1) + 1) + 1) + 1)) (by omega))] at hB
          have hB : Bx B0 D _ [(f1372_0, .inl (cs 1, 600, .inl (upd g1385 (((((κ w).2.2.1) + 1) + 1) + 1) (vp_nar .byte x1388)))), (w, .inr (5, [.ref f1372_0, .int (nI (((((κ w).2.2.1) + 1) + 1) + 1)), .int (nI f1372_2), .int (nI f1372_3), .int f1372_4, .int (nI f1372_5), .int f1372_6, .int f1372_7, .int f1372_8, .ref f1372_9, .int (nI f1372_10), f1372_11, .int f1372_12, .int f1372_13]))] [w, f1372_0] _ _ := hB
          generalize (upd g1385 (((((κ w).2.2.1) + 1) + 1) + 1) (vp_nar .byte x1388)) = g1389 at hB
          refine lv_aload_n hx hb dX5_store_32 rfl (lv_at hl 1 rfl) ?_
          refine lv_dup hx hb dX5_store_33 rfl ?_
          refine va_get (D := D) (ci := 5) (v := .int (nI (((((κ w).2.2.1) + 1) + 1) + 1))) (C := RX5) (T := TX5) (N := 14) hx hb hts iX5_store_5 hown hN.1 hB.1 1 rfl rfl 1 (by decide) (hts _ mX5_store_1) (fun _ h9 => h9) rfl dX5_store_34 ?_
          refine lv_iconst (v := 1) hx hb dX5_store_37 (by decide) ?_
          refine lv_iadd hx hb dX5_store_38 ?_
          refine tp_i (nI ((((((κ w).2.2.1) + 1) + 1) + 1) + 1)) (nI_add (((((κ w).2.2.1) + 1) + 1) + 1) 1) ?_
          refine b_put (D := D) (ci := 5) (v := .int (nI ((((((κ w).2.2.1) + 1) + 1) + 1) + 1))) (ty := .int) (C := RX5) (T := TX5) (N := 14) hx hb hts iX5_store_5 tyX5 tyX5_ok nmX5 hown hN hB 1 rfl rfl 1 (by decide) (hts _ mX5_store_1) (fun _ h9 => h9) rfl (by decide +kernel) rfl rfl (Nat.le_of_ble_eq_true rfl) (.inr ⟨rfl, List.mem_of_getElem? (i := 0) rfl⟩) dX5_store_39 (fun H locs hB => ?_)
          have hB : Bx B0 D _ [(f1372_0, .inl (cs 1, 600, .inl g1389)), (w, .inr (5, [.ref f1372_0, .int (nI ((((((κ w).2.2.1) + 1) + 1) + 1) + 1)), .int (nI f1372_2), .int (nI f1372_3), .int f1372_4, .int (nI f1372_5), .int f1372_6, .int f1372_7, .int f1372_8, .ref f1372_9, .int (nI f1372_10), f1372_11, .int f1372_12, .int f1372_13]))] [w, f1372_0] _ _ := hB
          refine lv_iinc (v := (-8)) (lv' := [(2, .int (-8)), (0, .ref w), (1, .int x)]) hx hb dX5_store_42 hl (k := 0) rfl (by decide) (by decide) rfl (fun ls hl => ?_)
          refine lv_goto (tgt := 3) hx hb dX5_store_45 (by decide) ?_
          refine lv_iload_n hx hb dX5_store_3 rfl (lv_at hl 0 rfl) ?_
          refine lv_if_lt (tgt := 48) hx hb dX5_store_4 (by decide) (fun _ => ?_) (fun c9 => absurd (by decide) c9)
          have hF : Fr B0 [10] κ H0 _ := hF.close hB (fa_c (by simp [hw.2]) (fa_c (by simp [t1372_0.2]) fa_n))
          have hT : WT B0 D cs T (kp κ w ((κ w).2.2.1 + 4) (κ w).2.2.2) _ := hT.closeK w ((κ w).2.2.1 + 4) (κ w).2.2.2 hB (by rw [hw.1]; decide) (by rw [hw.1]; decide) (List.mem_of_getElem? (i := 0) rfl) ⟨⟨1, _, rfl, kp_ok (ok_6 (k := ((κ w).1, (κ w).2.1, _, _)) hw.1 ⟨_, _, _, _, _, _, _, _, _, _, _, _, _, rfl, (by show ((κ w).2.2.1 + 4) ≤ 600; omega), (by omega), (by omega), (by omega), (by omega), (t2kp t1372_0), (t2kp t1372_9), (kp_su c1372_11), c1372_p2⟩)⟩, ⟨⟨0, _, rfl, kp_oth (ne_c t1372_0.1 hw.1 (by decide)) (by rw [hw.1]; decide) (by rw [hw.1]; decide) (ok_16 t1372_0.1 ⟨_, rfl⟩)⟩, trivial⟩⟩
          have hL : OkL B0 _ := hB.2.2.2.2.2
          exact en_v hx hb hr hlocks hL (Nat.zero_le _) (Nat.zero_le _) dX5_store_48 (⟨hT, hF⟩)
theorem mX5_fail_1 : (.fieldLink RX5 186 "OneBeat$Reader" "errorCode" "I" : Cond) ∈ wsX5_fail := List.mem_of_getElem? (i := 1) (by decide +kernel)
theorem iX5_fail_5 : ∀ w ∈ wsX50, w ∈ wsX5_fail := fun w h => List.mem_of_mem_drop (List.mem_of_mem_take ((show wsX50 = (wsX5_fail.drop 3).take 14 by decide +kernel) ▸ h))
theorem mX5_fail_2 : (.fieldLink RX5 41 "OneBeat$Reader" "errorStart" "I" : Cond) ∈ wsX5_fail := List.mem_of_getElem? (i := 2) (by decide +kernel)
set_option maxHeartbeats 4000000 in
set_option maxRecDepth 100000 in
theorem c_X5_fail {l : Launch} {D : va_G} {cs : Nat → ClassId} {B0 T : Nat} {κ : KM} {H0 : Heap} (hT : WT B0 D cs T κ H0) {w : Nat} (hw : T2 κ w 6 10) {x : Int32} {y : Int32} : KC l yX5_fail wsX5_fail 0 0 0 0 D cs B0 H0 [.ref w, .int x, .int y] (Qi (fun r H => WT B0 D cs T κ H ∧ Fr B0 [10] κ H0 H ∧ (r = 0))) := by
  refine KC.of cX5_fail 3 (some .boolean) (by decide) rfl (Nat.le_of_ble_eq_true rfl) ?_
  intro p e s m below meth c ls hx hb hr hml hown hts hlocks hin hN hE hH0 hl
  have hown : s.vm.findClass RX5 = some m.cls := hown
  have hl : lv_has ls 3 [(0, .ref w), (1, .int x), (2, .int y)] := hl
  have hL : OkL B0 [] := OkL.nil
  have hF : Fr B0 [10] κ H0 H0 := Fr.rf
  refine lv_aload_n hx hb dX5_fail_0 rfl (lv_at hl 0 rfl) ?_
  refine lv_iload_n hx hb dX5_fail_1 rfl (lv_at hl 1 rfl) ?_
  obtain ⟨hb1390, e1390, hat1390, hk1390⟩ := hT.o6 hw.1
  obtain ⟨f1390_0, f1390_2, f1390_3, f1390_4, f1390_5, f1390_6, f1390_7, f1390_8, f1390_9, f1390_10, f1390_11, f1390_12, f1390_13, rfl, c1390_1, c1390_2, c1390_3, c1390_5, c1390_10, t1390_0, t1390_9, c1390_11, c1390_p2⟩ := hk1390
  have hP : va_P D vwCl [(w, .inr (5, [.ref f1390_0, .int (nI ((κ w).2.2.1)), .int (nI f1390_2), .int (nI f1390_3), .int f1390_4, .int (nI f1390_5), .int f1390_6, .int f1390_7, .int f1390_8, .ref f1390_9, .int (nI f1390_10), f1390_11, .int f1390_12, .int f1390_13]))] _ := va_P.cons hat1390 va_P.nil
  have hB : Bx B0 D _ [(w, .inr (5, [.ref f1390_0, .int (nI ((κ w).2.2.1)), .int (nI f1390_2), .int (nI f1390_3), .int f1390_4, .int (nI f1390_5), .int f1390_6, .int f1390_7, .int f1390_8, .ref f1390_9, .int (nI f1390_10), f1390_11, .int f1390_12, .int f1390_13]))] [] _ _ := Bx.of (fun a => (κ a).1) hL hP (fa_c hb1390 fa_n) (by simp only [List.map_cons, List.map_nil, hw.1]; decide)
  refine b_put (D := D) (ci := 5) (v := .int x) (ty := .int) (C := RX5) (T := TX5) (N := 14) hx hb hts iX5_fail_5 tyX5 tyX5_ok nmX5 hown hN hB 0 rfl rfl 12 (by decide) (hts _ mX5_fail_1) (fun _ h9 => h9) rfl (by decide +kernel) rfl rfl (Nat.le_of_ble_eq_true rfl) (.inl rfl) dX5_fail_2 (fun H locs hB => ?_)
  have hB : Bx B0 D _ [(w, .inr (5, [.ref f1390_0, .int (nI ((κ w).2.2.1)), .int (nI f1390_2), .int (nI f1390_3), .int f1390_4, .int (nI f1390_5), .int f1390_6, .int f1390_7, .int f1390_8, .ref f1390_9, .int (nI f1390_10), f1390_11, .int x, .int f1390_13]))] [w] _ _ := hB
  refine lv_aload_n hx hb dX5_fail_5 rfl (lv_at hl 0 rfl) ?_
  refine lv_iload_n hx hb dX5_fail_6 rfl (lv_at hl 2 rfl) ?_
  refine b_put (D := D) (ci := 5) (v := .int y) (ty := .int) (C := RX5) (T := TX5) (N := 14) hx hb hts iX5_fail_5 tyX5 tyX5_ok nmX5 hown hN hB 0 rfl rfl 13 (by decide) (hts _ mX5_fail_2) (fun _ h9 => h9) rfl (by decide +kernel) rfl rfl (Nat.le_of_ble_eq_true rfl) (.inr ⟨rfl, List.mem_of_getElem? (i := 0) rfl⟩) dX5_fail_7 (fun H locs hB => ?_)
  have hB : Bx B0 D _ [(w, .inr (5, [.ref f1390_0, .int (nI ((κ w).2.2.1)), .int (nI f1390_2), .int (nI f1390_3), .int f1390_4, .int (nI f1390_5), .int f1390_6, .int f1390_7, .int f1390_8, .ref f1390_9, .int (nI f1390_10), f1390_11, .int x, .int y]))] [w] _ _ := hB
  refine lv_iconst (v := 0) hx hb dX5_fail_10 (by decide) ?_
  have hT : WT B0 D cs T κ _ := hT.close hB ⟨⟨0, _, rfl, ok_6 hw.1 ⟨_, _, _, _, _, _, _, _, _, _, _, _, _, rfl, (by omega), (by omega), (by omega), (by omega), (by omega), t1390_0, t1390_9, c1390_11, c1390_p2⟩⟩, trivial⟩
  have hF : Fr B0 [10] κ H0 _ := hF.close hB (fa_c (by simp [hw.2]) fa_n)
  have hL : OkL B0 _ := hB.2.2.2.2.2
  have hP : va_P D vwCl [(w, .inr (5, [.ref f1390_0, .int (nI ((κ w).2.2.1)), .int (nI f1390_2), .int (nI f1390_3), .int f1390_4, .int (nI f1390_5), .int f1390_6, .int f1390_7, .int f1390_8, .ref f1390_9, .int (nI f1390_10), f1390_11, .int x, .int y]))] _ := hB.1
  exact en_i hx hb hr hlocks hL rfl (Nat.zero_le _) (Nat.zero_le _) dX5_fail_11 (⟨hT, hF, rfl⟩)
theorem mX5_isMark_1 : (.fieldLink RX5 73 "OneBeat$Reader" "kind" "I" : Cond) ∈ wsX5_isMark := List.mem_of_getElem? (i := 1) (by decide +kernel)
theorem iX5_isMark_5 : ∀ w ∈ wsX50, w ∈ wsX5_isMark := fun w h => List.mem_of_mem_drop (List.mem_of_mem_take ((show wsX50 = (wsX5_isMark.drop 3).take 14 by decide +kernel) ▸ h))
theorem mX5_isMark_2 : (.fieldLink RX5 175 "OneBeat$Reader" "value" "I" : Cond) ∈ wsX5_isMark := List.mem_of_getElem? (i := 2) (by decide +kernel)
set_option maxHeartbeats 4000000 in
set_option maxRecDepth 100000 in
theorem c_X5_isMark {l : Launch} {D : va_G} {cs : Nat → ClassId} {B0 T : Nat} {κ : KM} {H0 : Heap} (hT : WT B0 D cs T κ H0) {w : Nat} (hw : T2 κ w 6 10) {x : Int32} : KC l yX5_isMark wsX5_isMark 0 0 0 0 D cs B0 H0 [.ref w, .int x] (Qi (fun r H => H = H0 ∧ (r = 0 ∨ r = 1))) := by
  refine KC.of cX5_isMark 2 (some .boolean) (by decide) rfl (Nat.le_of_ble_eq_true rfl) ?_
  intro p e s m below meth c ls hx hb hr hml hown hts hlocks hin hN hE hH0 hl
  have hown : s.vm.findClass RX5 = some m.cls := hown
  have hl : lv_has ls 2 [(0, .ref w), (1, .int x)] := hl
  have hL : OkL B0 [] := OkL.nil
  refine lv_aload_n hx hb dX5_isMark_0 rfl (lv_at hl 0 rfl) ?_
  obtain ⟨hb1391, e1391, hat1391, hk1391⟩ := hT.o6 hw.1
  obtain ⟨f1391_0, f1391_2, f1391_3, f1391_4, f1391_5, f1391_6, f1391_7, f1391_8, f1391_9, f1391_10, f1391_11, f1391_12, f1391_13, rfl, c1391_1, c1391_2, c1391_3, c1391_5, c1391_10, t1391_0, t1391_9, c1391_11, c1391_p2⟩ := hk1391
  have hP : va_P D vwCl [(w, .inr (5, [.ref f1391_0, .int (nI ((κ w).2.2.1)), .int (nI f1391_2), .int (nI f1391_3), .int f1391_4, .int (nI f1391_5), .int f1391_6, .int f1391_7, .int f1391_8, .ref f1391_9, .int (nI f1391_10), f1391_11, .int f1391_12, .int f1391_13]))] _ := va_P.cons hat1391 va_P.nil
  refine va_get (D := D) (ci := 5) (v := .int f1391_4) (C := RX5) (T := TX5) (N := 14) hx hb hts iX5_isMark_5 hown hN.1 hP 0 rfl rfl 4 (by decide) (hts _ mX5_isMark_1) (fun _ h9 => h9) rfl dX5_isMark_1 ?_
  refine lv_iconst (v := 3) hx hb dX5_isMark_4 (by decide) ?_
  refine lv_icmp_ne (tgt := 20) hx hb dX5_isMark_5 (by decide) (fun c1392 => ?_) (fun c1392 => ?_)
  · refine lv_iconst (v := 0) hx hb dX5_isMark_20 (by decide) ?_
    exact en_i hx hb hr hlocks hL rfl (Nat.zero_le _) (Nat.zero_le _) dX5_isMark_21 (⟨rfl, Or.inl rfl⟩)
  · refine lv_aload_n hx hb dX5_isMark_8 rfl (lv_at hl 0 rfl) ?_
    refine va_get (D := D) (ci := 5) (v := .int f1391_6) (C := RX5) (T := TX5) (N := 14) hx hb hts iX5_isMark_5 hown hN.1 hP 0 rfl rfl 6 (by decide) (hts _ mX5_isMark_2) (fun _ h9 => h9) rfl dX5_isMark_9 ?_
    refine lv_iload_n hx hb dX5_isMark_12 rfl (lv_at hl 1 rfl) ?_
    refine lv_icmp_ne (tgt := 20) hx hb dX5_isMark_13 (by decide) (fun c1393 => ?_) (fun c1393 => ?_)
    · refine lv_iconst (v := 0) hx hb dX5_isMark_20 (by decide) ?_
      exact en_i hx hb hr hlocks hL rfl (Nat.zero_le _) (Nat.zero_le _) dX5_isMark_21 (⟨rfl, Or.inl rfl⟩)
    · refine lv_iconst (v := 1) hx hb dX5_isMark_16 (by decide) ?_
      refine lv_goto (tgt := 21) hx hb dX5_isMark_17 (by decide) ?_
      exact en_i hx hb hr hlocks hL rfl (Nat.zero_le _) (Nat.zero_le _) dX5_isMark_21 (⟨rfl, Or.inr rfl⟩)
theorem mX5_isWord_1 : (.fieldLink RX5 73 "OneBeat$Reader" "kind" "I" : Cond) ∈ wsX5_isWord := List.mem_of_getElem? (i := 1) (by decide +kernel)
theorem iX5_isWord_5 : ∀ w ∈ wsX50, w ∈ wsX5_isWord := fun w h => List.mem_of_mem_drop (List.mem_of_mem_take ((show wsX50 = (wsX5_isWord.drop 54).take 14 by decide +kernel) ▸ h))
theorem mX5_isWord_2 : (.fieldLink RX5 35 "OneBeat$Reader" "position" "I" : Cond) ∈ wsX5_isWord := List.mem_of_getElem? (i := 2) (by decide +kernel)
theorem mX5_isWord_3 : (.fieldLink RX5 124 "OneBeat$Reader" "start" "I" : Cond) ∈ wsX5_isWord := List.mem_of_getElem? (i := 3) (by decide +kernel)
theorem hdJ0_length_8abf5_v : yJ0_length_8abf5.cls = RJ0 ∧ yJ0_length_8abf5.cls ≠ "java/lang/invoke/MethodHandle" ∧ yJ0_length_8abf5.cls ≠ "java/lang/invoke/VarHandle" ∧ (parseMethodDescriptor yJ0_length_8abf5.desc).map (fun d => d.parameters.length) = some 0 := by decide +kernel
theorem mX5_isWord_4 : (.fieldLink RX5 11 "OneBeat$Reader" "text" "[B" : Cond) ∈ wsX5_isWord := List.mem_of_getElem? (i := 4) (by decide +kernel)
theorem hdJ0_charAt_5068e_v : yJ0_charAt_5068e.cls = RJ0 ∧ yJ0_charAt_5068e.cls ≠ "java/lang/invoke/MethodHandle" ∧ yJ0_charAt_5068e.cls ≠ "java/lang/invoke/VarHandle" ∧ (parseMethodDescriptor yJ0_charAt_5068e.desc).map (fun d => d.parameters.length) = some 1 := by decide +kernel
set_option maxHeartbeats 4000000 in
set_option maxRecDepth 100000 in
theorem c_X5_isWord {l : Launch} {D : va_G} {cs : Nat → ClassId} {B0 T : Nat} {κ : KM} {H0 : Heap} (hT : WT B0 D cs T κ H0) {w : Nat} (hw : T2 κ w 6 10) {i : Nat} (hi9 : i ∈ nW) : KC l yX5_isWord wsX5_isWord 4 85 0 0 D cs B0 H0 [.ref w, .ref (cs (100 + i))] (Qi (fun r H => H = H0 ∧ (r = 0 ∨ r = 1))) := by
  refine KC.of cX5_isWord 3 (some .boolean) (by decide) rfl (Nat.le_of_ble_eq_true rfl) ?_
  intro p e s m below meth c ls hx hb hr hml hown hts hlocks hin hN hE hH0 hl
  have hown : s.vm.findClass RX5 = some m.cls := hown
  have hl : lv_has ls 3 [(0, .ref w), (1, .ref (cs (100 + i)))] := hl
  have hL : OkL B0 [] := OkL.nil
  refine lv_aload_n hx hb dX5_isWord_0 rfl (lv_at hl 0 rfl) ?_
  obtain ⟨hb1394, e1394, hat1394, hk1394⟩ := hT.o6 hw.1
  obtain ⟨f1394_0, f1394_2, f1394_3, f1394_4, f1394_5, f1394_6, f1394_7, f1394_8, f1394_9, f1394_10, f1394_11, f1394_12, f1394_13, rfl, c1394_1, c1394_2, c1394_3, c1394_5, c1394_10, t1394_0, t1394_9, c1394_11, c1394_p2⟩ := hk1394
  have hP : va_P D vwCl [(w, .inr (5, [.ref f1394_0, .int (nI ((κ w).2.2.1)), .int (nI f1394_2), .int (nI f1394_3), .int f1394_4, .int (nI f1394_5), .int f1394_6, .int f1394_7, .int f1394_8, .ref f1394_9, .int (nI f1394_10), f1394_11, .int f1394_12, .int f1394_13]))] _ := va_P.cons hat1394 va_P.nil
  refine va_get (D := D) (ci := 5) (v := .int f1394_4) (C := RX5) (T := TX5) (N := 14) hx hb hts iX5_isWord_5 hown hN.1 hP 0 rfl rfl 4 (by decide) (hts _ mX5_isWord_1) (fun _ h9 => h9) rfl dX5_isWord_1 ?_
  refine lv_iconst (v := 2) hx hb dX5_isWord_4 (by decide) ?_
  refine lv_icmp_ne (tgt := 36) hx hb dX5_isWord_5 (by decide) (fun c1395 => ?_) (fun c1395 => ?_)
  · refine lv_iconst (v := 0) hx hb dX5_isWord_36 (by decide) ?_
    exact en_i hx hb hr hlocks hL rfl (Nat.zero_le _) (Nat.zero_le _) dX5_isWord_37 (⟨rfl, Or.inl rfl⟩)
  · refine lv_aload_n hx hb dX5_isWord_8 rfl (lv_at hl 0 rfl) ?_
    refine va_get (D := D) (ci := 5) (v := .int (nI f1394_3)) (C := RX5) (T := TX5) (N := 14) hx hb hts iX5_isWord_5 hown hN.1 hP 0 rfl rfl 3 (by decide) (hts _ mX5_isWord_2) (fun _ h9 => h9) rfl dX5_isWord_9 ?_
    refine lv_aload_n hx hb dX5_isWord_12 rfl (lv_at hl 0 rfl) ?_
    refine va_get (D := D) (ci := 5) (v := .int (nI f1394_5)) (C := RX5) (T := TX5) (N := 14) hx hb hts iX5_isWord_5 hown hN.1 hP 0 rfl rfl 5 (by decide) (hts _ mX5_isWord_3) (fun _ h9 => h9) rfl dX5_isWord_13 ?_
    refine lv_isub hx hb dX5_isWord_16 ?_
    refine gn_i (fun x1396 => ?_)
    refine lv_aload_n hx hb dX5_isWord_17 rfl (lv_at hl 1 rfl) ?_
    refine W.old hL (fun hold => ?_)
    refine cv_i (As := []) (rest := [.int x1396]) (b := (cs (100 + i))) ⟨hx, hb, hml, hown, hts⟩ (c_J0_length_8abf5 hT (i := i) hi9) (cwV 0 hts gX5_isWord_J0_length_8abf5 rfl rfl rfl hdJ0_length_8abf5_v ⟨Nat.le_of_ble_eq_true rfl, Nat.le_of_ble_eq_true rfl⟩) hN hE hL (sx_rec (hE.2.1 _ hi9) hold) rfl rfl hl.1 (Nat.le_of_ble_eq_true rfl) dX5_isWord_18 (Nat.zero_le _) (Nat.zero_le _) (fun r1397 H1 locs hL hqr1397 => ?_)
    obtain ⟨h9, hqr1397⟩ := hqr1397; replace h9 := h9.symm; subst h9
    obtain rfl := hqr1397
    have hn9 := nT_le _ hi9
    refine lv_icmp_ne (tgt := 36) hx hb dX5_isWord_21 (by decide) (fun c1398 => ?_) (fun c1398 => ?_)
    · refine lv_iconst (v := 0) hx hb dX5_isWord_36 (by decide) ?_
      exact en_i hx hb hr hlocks hL rfl (Nat.zero_le _) (Nat.zero_le _) dX5_isWord_37 (⟨rfl, Or.inl rfl⟩)
    · refine lv_aload_n hx hb dX5_isWord_24 rfl (lv_at hl 0 rfl) ?_
      refine va_get (D := D) (ci := 5) (v := .int (nI f1394_3)) (C := RX5) (T := TX5) (N := 14) hx hb hts iX5_isWord_5 hown hN.1 hP 0 rfl rfl 3 (by decide) (hts _ mX5_isWord_2) (fun _ h9 => h9) rfl dX5_isWord_25 ?_
      refine lv_aload_n hx hb dX5_isWord_28 rfl (lv_at hl 0 rfl) ?_
      refine va_get (D := D) (ci := 5) (v := .ref f1394_0) (C := RX5) (T := TX5) (N := 14) hx hb hts iX5_isWord_5 hown hN.1 hP 0 rfl rfl 0 (by decide) (hts _ mX5_isWord_4) (fun _ h9 => h9) rfl dX5_isWord_29 ?_
      obtain ⟨hb1399, e1399, hat1399, hk1399⟩ := hT.o16 t1394_0.1
      obtain ⟨g1399, rfl⟩ := hk1399
      have hP : va_P D vwCl [(f1394_0, .inl (cs 1, 600, .inl g1399)), (w, .inr (5, [.ref f1394_0, .int (nI ((κ w).2.2.1)), .int (nI f1394_2), .int (nI f1394_3), .int f1394_4, .int (nI f1394_5), .int f1394_6, .int f1394_7, .int f1394_8, .ref f1394_9, .int (nI f1394_10), f1394_11, .int f1394_12, .int f1394_13]))] _ := va_P.cons hat1399 hP
      refine va_alen (v := 600) hx hb hN.1 hP 0 1 rfl rfl rfl dX5_isWord_32 ?_
      refine lv_icmp_le (tgt := 38) hx hb dX5_isWord_33 (by decide) (fun c1400 => ?_) (fun c1400 => ?_)
      · have c1400 : f1394_3 ≤ 600 := (nI_leI (a := f1394_3) (b := 600) (by omega) (by omega)).mp c1400
        refine lv_iconst (v := 0) hx hb dX5_isWord_38 (by decide) ?_
        refine lv_istore_n (lv' := [(2, .int 0), (0, .ref w), (1, .ref (cs (100 + i)))]) hx hb dX5_isWord_39 rfl hl (by decide) rfl (fun ls hl => ?_)
        refine lp_r (B0 := B0) (α := Nat) (nL := 3) (fun a9 => 8 - a9) (fun a9 => (a9 ≤ 8)) (fun a9 => [(2, .int (nI a9)), (0, .ref w), (1, .ref (cs (100 + i)))]) ?_ 0 _ _ (by show (0) ≤ 8; omega) hL (lv_sub hl [0, 1, 2] rfl)
        rintro k locs ls ih1401 hk hL hl
        have hl : lv_has ls 3 [(2, .int (nI k)), (0, .ref w), (1, .ref (cs (100 + i)))] := hl
        have hk : k ≤ 8 := hk
        refine lv_iload_n hx hb dX5_isWord_40 rfl (lv_at hl 0 rfl) ?_
        refine lv_aload_n hx hb dX5_isWord_41 rfl (lv_at hl 2 rfl) ?_
        refine W.old hL (fun hold => ?_)
        refine cv_i (As := []) (rest := [.int (nI k)]) (b := (cs (100 + i))) ⟨hx, hb, hml, hown, hts⟩ (c_J0_length_8abf5 hT (i := i) hi9) (cwV 0 hts gX5_isWord_J0_length_8abf5 rfl rfl rfl hdJ0_length_8abf5_v ⟨Nat.le_of_ble_eq_true rfl, Nat.le_of_ble_eq_true rfl⟩) hN hE hL (sx_rec (hE.2.1 _ hi9) hold) rfl rfl hl.1 (Nat.le_of_ble_eq_true rfl) dX5_isWord_42 (Nat.zero_le _) (Nat.zero_le _) (fun r1402 H1 locs hL hqr1402 => ?_)
        obtain ⟨h9, hqr1402⟩ := hqr1402; replace h9 := h9.symm; subst h9
        obtain rfl := hqr1402
        have hn9 := nT_le _ hi9
        refine lv_icmp_ge (tgt := 88) hx hb dX5_isWord_45 (by decide) (fun c1403 => ?_) (fun c1403 => ?_)
        · have c1403 : (nT i) ≤ k := (nI_leI (a := (nT i)) (b := k) (by omega) (by omega)).mp c1403
          refine lv_iconst (v := 1) hx hb dX5_isWord_88 (by decide) ?_
          exact en_i hx hb hr hlocks hL rfl (Nat.zero_le _) (Nat.zero_le _) dX5_isWord_89 (⟨rfl, Or.inr rfl⟩)
        · have c1403 : ¬ (nT i) ≤ k := fun h9 => c1403 ((nI_leI (a := (nT i)) (b := k) (by omega) (by omega)).mpr h9)
          refine lv_aload_n hx hb dX5_isWord_48 rfl (lv_at hl 1 rfl) ?_
          refine va_get (D := D) (ci := 5) (v := .int (nI f1394_5)) (C := RX5) (T := TX5) (N := 14) hx hb hts iX5_isWord_5 hown hN.1 hP 1 rfl rfl 5 (by decide) (hts _ mX5_isWord_3) (fun _ h9 => h9) rfl dX5_isWord_49 ?_
          refine lv_iload_n hx hb dX5_isWord_52 rfl (lv_at hl 0 rfl) ?_
          refine lv_iadd hx hb dX5_isWord_53 ?_
          refine tp_i (nI (f1394_5 + k)) (nI_add f1394_5 k) ?_
          refine lv_aload_n hx hb dX5_isWord_54 rfl (lv_at hl 1 rfl) ?_
          refine va_get (D := D) (ci := 5) (v := .int (nI f1394_3)) (C := RX5) (T := TX5) (N := 14) hx hb hts iX5_isWord_5 hown hN.1 hP 1 rfl rfl 3 (by decide) (hts _ mX5_isWord_2) (fun _ h9 => h9) rfl dX5_isWord_55 ?_
          refine lv_icmp_ge (tgt := 88) hx hb dX5_isWord_58 (by decide) (fun c1404 => ?_) (fun c1404 => ?_)
          · have c1404 : f1394_3 ≤ (f1394_5 + k) := (nI_leI (a := f1394_3) (b := (f1394_5 + k)) (by omega) (by omega)).mp c1404
            refine lv_iconst (v := 1) hx hb dX5_isWord_88 (by decide) ?_
            exact en_i hx hb hr hlocks hL rfl (Nat.zero_le _) (Nat.zero_le _) dX5_isWord_89 (⟨rfl, Or.inr rfl⟩)
          · have c1404 : ¬ f1394_3 ≤ (f1394_5 + k) := fun h9 => c1404 ((nI_leI (a := f1394_3) (b := (f1394_5 + k)) (by omega) (by omega)).mpr h9)
            refine lv_aload_n hx hb dX5_isWord_61 rfl (lv_at hl 1 rfl) ?_
            refine va_get (D := D) (ci := 5) (v := .ref f1394_0) (C := RX5) (T := TX5) (N := 14) hx hb hts iX5_isWord_5 hown hN.1 hP 1 rfl rfl 0 (by decide) (hts _ mX5_isWord_4) (fun _ h9 => h9) rfl dX5_isWord_62 ?_
            refine lv_aload_n hx hb dX5_isWord_65 rfl (lv_at hl 1 rfl) ?_
            refine va_get (D := D) (ci := 5) (v := .int (nI f1394_5)) (C := RX5) (T := TX5) (N := 14) hx hb hts iX5_isWord_5 hown hN.1 hP 1 rfl rfl 5 (by decide) (hts _ mX5_isWord_3) (fun _ h9 => h9) rfl dX5_isWord_66 ?_
            refine lv_iload_n hx hb dX5_isWord_69 rfl (lv_at hl 0 rfl) ?_
            refine lv_iadd hx hb dX5_isWord_70 ?_
            refine tp_i (nI (f1394_5 + k)) (nI_add f1394_5 k) ?_
            refine ld_b (v := (g1399 (f1394_5 + k))) hx hb hN hP 0 rfl (vp_in_nI (n := (f1394_5 + k)) (N := 600) (by omega) (by omega)) (by rw [(show ((nI (f1394_5 + k)) : Int32).toNatClampNeg = (f1394_5 + k) from nI_clamp (n := (f1394_5 + k)) (by omega))]) dX5_isWord_71 ?_
            refine gn_i (fun x1405 => ?_)
            refine lv_aload_n hx hb dX5_isWord_72 rfl (lv_at hl 2 rfl) ?_
            refine lv_iload_n hx hb dX5_isWord_73 rfl (lv_at hl 0 rfl) ?_
            refine W.old hL (fun hold => ?_)
            refine cv_i (As := [.int (nI k)]) (rest := [.int x1405]) (b := (cs (100 + i))) ⟨hx, hb, hml, hown, hts⟩ (c_J0_charAt_5068e hT (i := i) hi9 (k := k) (by first | omega | decide | assumption)) (cwV 1 hts gX5_isWord_J0_charAt_5068e rfl rfl rfl hdJ0_charAt_5068e_v ⟨Nat.le_of_ble_eq_true rfl, Nat.le_of_ble_eq_true rfl⟩) hN hE hL (sx_rec (hE.2.1 _ hi9) hold) rfl rfl hl.1 (Nat.le_of_ble_eq_true rfl) dX5_isWord_74 (Nat.zero_le _) (Nat.zero_le _) (fun r1406 H1 locs hL hqr1406 => ?_)
            obtain ⟨h9, hqr1406⟩ := hqr1406; replace h9 := h9.symm; subst h9
            obtain ⟨n1407, h1408, rfl⟩ := hqr1406
            refine lv_icmp_eq (tgt := 82) hx hb dX5_isWord_77 (by decide) (fun c1409 => ?_) (fun c1409 => ?_)
            · refine lv_iinc (v := (nI (k + 1))) (lv' := [(2, .int (nI (k + 1))), (0, .ref w), (1, .ref (cs (100 + i)))]) hx hb dX5_isWord_82 hl (k := 0) rfl (nI_add _ 1) (by decide) rfl (fun ls hl => ?_)
              refine lv_goto (tgt := 40) hx hb dX5_isWord_85 (by decide) ?_
              exact ih1401 (k + 1) _ _ (by show 8 - ((k + 1)) < 8 - k; omega) (by show ((k + 1)) ≤ 8; omega) hL (lv_sub hl [0, 1, 2] rfl)
            · refine lv_iconst (v := 0) hx hb dX5_isWord_80 (by decide) ?_
              exact en_i hx hb hr hlocks hL rfl (Nat.zero_le _) (Nat.zero_le _) dX5_isWord_81 (⟨rfl, Or.inl rfl⟩)
      · have c1400 : ¬ f1394_3 ≤ 600 := fun h9 => c1400 ((nI_leI (a := f1394_3) (b := 600) (by omega) (by omega)).mpr h9)
        refine lv_iconst (v := 0) hx hb dX5_isWord_36 (by decide) ?_
        exact en_i hx hb hr hlocks hL rfl (Nat.zero_le _) (Nat.zero_le _) dX5_isWord_37 (⟨rfl, Or.inl rfl⟩)
theorem mX5_step_1 : (.fieldLink RX5 35 "OneBeat$Reader" "position" "I" : Cond) ∈ wsX5_step := List.mem_of_getElem? (i := 1) (by decide +kernel)
theorem iX5_step_5 : ∀ w ∈ wsX50, w ∈ wsX5_step := fun w h => List.mem_of_mem_drop (List.mem_of_mem_take ((show wsX50 = (wsX5_step.drop 8).take 14 by decide +kernel) ▸ h))
theorem mX5_step_2 : (.fieldLink RX5 32 "OneBeat$Reader" "length" "I" : Cond) ∈ wsX5_step := List.mem_of_getElem? (i := 2) (by decide +kernel)
theorem mX5_step_4 : (.fieldLink RX5 124 "OneBeat$Reader" "start" "I" : Cond) ∈ wsX5_step := List.mem_of_getElem? (i := 4) (by decide +kernel)
theorem mX5_step_5 : (.fieldLink RX5 175 "OneBeat$Reader" "value" "I" : Cond) ∈ wsX5_step := List.mem_of_getElem? (i := 5) (by decide +kernel)
theorem mX5_step_3 : (.fieldLink RX5 11 "OneBeat$Reader" "text" "[B" : Cond) ∈ wsX5_step := List.mem_of_getElem? (i := 3) (by decide +kernel)
theorem mX5_step_6 : (.fieldLink RX5 73 "OneBeat$Reader" "kind" "I" : Cond) ∈ wsX5_step := List.mem_of_getElem? (i := 6) (by decide +kernel)
theorem mX5_step_7 : (.constant RX5 189 (1000000) : Cond) ∈ wsX5_step := List.mem_of_getElem? (i := 7) (by decide +kernel)
set_option maxHeartbeats 4000000 in
set_option maxRecDepth 100000 in
theorem c_X5_step {l : Launch} {D : va_G} {cs : Nat → ClassId} {B0 T : Nat} {κ : KM} {H0 : Heap} (hT : WT B0 D cs T κ H0) {w : Nat} (hw : T2 κ w 6 10) : KC l yX5_step wsX5_step 0 0 0 0 D cs B0 H0 [.ref w] (Qv (fun H => WT B0 D cs T κ H ∧ Fr B0 [10] κ H0 H ∧ ∀ v, FI D w 5 7 v H0 → FI D w 5 7 v H)) := by
  refine KC.of cX5_step 3 none (by decide) rfl (Nat.le_of_ble_eq_true rfl) ?_
  intro p e s m below meth c ls hx hb hr hml hown hts hlocks hin hN hE hH0 hl
  have hown : s.vm.findClass RX5 = some m.cls := hown
  have hl : lv_has ls 3 [(0, .ref w)] := hl
  have hL : OkL B0 [] := OkL.nil
  have hF : Fr B0 [10] κ H0 H0 := Fr.rf
  obtain ⟨hb1410, e1410, hat1410, hk1410⟩ := hT.o6 hw.1
  obtain ⟨f1410_0, f1410_2, f1410_3, f1410_4, f1410_5, f1410_6, f1410_7, f1410_8, f1410_9, f1410_10, f1410_11, f1410_12, f1410_13, rfl, c1410_1, c1410_2, c1410_3, c1410_5, c1410_10, t1410_0, t1410_9, c1410_11, c1410_p2⟩ := hk1410
  have hP : va_P D vwCl [(w, .inr (5, [.ref f1410_0, .int (nI ((κ w).2.2.1)), .int (nI f1410_2), .int (nI f1410_3), .int f1410_4, .int (nI f1410_5), .int f1410_6, .int f1410_7, .int f1410_8, .ref f1410_9, .int (nI f1410_10), f1410_11, .int f1410_12, .int f1410_13]))] _ := va_P.cons hat1410 va_P.nil
  obtain ⟨hb1411, e1411, hat1411, hk1411⟩ := hT.o16 t1410_0.1
  obtain ⟨g1411, rfl⟩ := hk1411
  have hP : va_P D vwCl [(f1410_0, .inl (cs 1, 600, .inl g1411)), (w, .inr (5, [.ref f1410_0, .int (nI ((κ w).2.2.1)), .int (nI f1410_2), .int (nI f1410_3), .int f1410_4, .int (nI f1410_5), .int f1410_6, .int f1410_7, .int f1410_8, .ref f1410_9, .int (nI f1410_10), f1410_11, .int f1410_12, .int f1410_13]))] _ := va_P.cons hat1411 hP
  have hB : Bx B0 D _ [(f1410_0, .inl (cs 1, 600, .inl g1411)), (w, .inr (5, [.ref f1410_0, .int (nI ((κ w).2.2.1)), .int (nI f1410_2), .int (nI f1410_3), .int f1410_4, .int (nI f1410_5), .int f1410_6, .int f1410_7, .int f1410_8, .ref f1410_9, .int (nI f1410_10), f1410_11, .int f1410_12, .int f1410_13]))] [] _ _ := Bx.of (fun a => (κ a).1) hL hP (fa_c hb1411 (fa_c hb1410 fa_n)) (by simp only [List.map_cons, List.map_nil, t1410_0.1, hw.1]; decide)
  have hB : Bx B0 D _ [(f1410_0, .inl (cs 1, 600, .inl g1411)), (w, .inr (5, [.ref f1410_0, .int (nI ((κ w).2.2.1)), .int (nI f1410_2), .int (nI f1410_3), .int f1410_4, .int (nI f1410_5), .int f1410_6, .int f1410_7, .int f1410_8, .ref f1410_9, .int (nI f1410_10), f1410_11, .int f1410_12, .int f1410_13]))] [w] _ _ := hB.ms (by simp) (fa_c hb1410 fa_n)
  refine lp_m (α := Nat) (nL := 3) (fun a9 => 600 - a9) (fun a9 H9 l9 => (a9 ≤ 600) ∧ (Bx B0 D H0 [(f1410_0, .inl (cs 1, 600, .inl g1411)), (w, .inr (5, [.ref f1410_0, .int (nI ((κ w).2.2.1)), .int (nI f1410_2), .int (nI a9), .int f1410_4, .int (nI f1410_5), .int f1410_6, .int f1410_7, .int f1410_8, .ref f1410_9, .int (nI f1410_10), f1410_11, .int f1410_12, .int f1410_13]))] [w] H9 l9)) (fun a9 => [(0, .ref w)]) ?_ f1410_3 _ _ _ ⟨(by show (f1410_3) ≤ 600; omega), hB⟩ (lv_sub hl [0] rfl)
  rintro k1 H locs ls ih1412 ⟨hk1, hB⟩ hl
  have hl : lv_has ls 3 [(0, .ref w)] := hl
  have hk1 : k1 ≤ 600 := hk1
  have hB : Bx B0 D _ [(f1410_0, .inl (cs 1, 600, .inl g1411)), (w, .inr (5, [.ref f1410_0, .int (nI ((κ w).2.2.1)), .int (nI f1410_2), .int (nI k1), .int f1410_4, .int (nI f1410_5), .int f1410_6, .int f1410_7, .int f1410_8, .ref f1410_9, .int (nI f1410_10), f1410_11, .int f1410_12, .int f1410_13]))] [w] _ _ := hB
  refine lv_aload_n hx hb dX5_step_0 rfl (lv_at hl 0 rfl) ?_
  refine va_get (D := D) (ci := 5) (v := .int (nI k1)) (C := RX5) (T := TX5) (N := 14) hx hb hts iX5_step_5 hown hN.1 hB.1 1 rfl rfl 3 (by decide) (hts _ mX5_step_1) (fun _ h9 => h9) rfl dX5_step_1 ?_
  refine lv_aload_n hx hb dX5_step_4 rfl (lv_at hl 0 rfl) ?_
  refine va_get (D := D) (ci := 5) (v := .int (nI f1410_2)) (C := RX5) (T := TX5) (N := 14) hx hb hts iX5_step_5 hown hN.1 hB.1 1 rfl rfl 2 (by decide) (hts _ mX5_step_2) (fun _ h9 => h9) rfl dX5_step_5 ?_
  refine lv_icmp_ge (tgt := 38) hx hb dX5_step_8 (by decide) (fun c1413 => ?_) (fun c1413 => ?_)
  · have c1413 : f1410_2 ≤ k1 := (nI_leI (a := f1410_2) (b := k1) (by omega) (by omega)).mp c1413
    refine lv_aload_n hx hb dX5_step_38 rfl (lv_at hl 0 rfl) ?_
    refine lv_aload_n hx hb dX5_step_39 rfl (lv_at hl 0 rfl) ?_
    refine va_get (D := D) (ci := 5) (v := .int (nI k1)) (C := RX5) (T := TX5) (N := 14) hx hb hts iX5_step_5 hown hN.1 hB.1 1 rfl rfl 3 (by decide) (hts _ mX5_step_1) (fun _ h9 => h9) rfl dX5_step_40 ?_
    refine b_put (D := D) (ci := 5) (v := .int (nI k1)) (ty := .int) (C := RX5) (T := TX5) (N := 14) hx hb hts iX5_step_5 tyX5 tyX5_ok nmX5 hown hN hB 1 rfl rfl 5 (by decide) (hts _ mX5_step_4) (fun _ h9 => h9) rfl (by decide +kernel) rfl rfl (Nat.le_of_ble_eq_true rfl) (.inr ⟨rfl, List.mem_of_getElem? (i := 0) rfl⟩) dX5_step_43 (fun H locs hB => ?_)
    have hB : Bx B0 D _ [(f1410_0, .inl (cs 1, 600, .inl g1411)), (w, .inr (5, [.ref f1410_0, .int (nI ((κ w).2.2.1)), .int (nI f1410_2), .int (nI k1), .int f1410_4, .int (nI k1), .int f1410_6, .int f1410_7, .int f1410_8, .ref f1410_9, .int (nI f1410_10), f1410_11, .int f1410_12, .int f1410_13]))] [w] _ _ := hB
    refine lv_aload_n hx hb dX5_step_46 rfl (lv_at hl 0 rfl) ?_
    refine lv_iconst (v := 0) hx hb dX5_step_47 (by decide) ?_
    refine b_put (D := D) (ci := 5) (v := .int 0) (ty := .int) (C := RX5) (T := TX5) (N := 14) hx hb hts iX5_step_5 tyX5 tyX5_ok nmX5 hown hN hB 1 rfl rfl 6 (by decide) (hts _ mX5_step_5) (fun _ h9 => h9) rfl (by decide +kernel) rfl rfl (Nat.le_of_ble_eq_true rfl) (.inr ⟨rfl, List.mem_of_getElem? (i := 0) rfl⟩) dX5_step_48 (fun H locs hB => ?_)
    have hB : Bx B0 D _ [(f1410_0, .inl (cs 1, 600, .inl g1411)), (w, .inr (5, [.ref f1410_0, .int (nI ((κ w).2.2.1)), .int (nI f1410_2), .int (nI k1), .int f1410_4, .int (nI k1), .int 0, .int f1410_7, .int f1410_8, .ref f1410_9, .int (nI f1410_10), f1410_11, .int f1410_12, .int f1410_13]))] [w] _ _ := hB
    refine lv_aload_n hx hb dX5_step_51 rfl (lv_at hl 0 rfl) ?_
    refine va_get (D := D) (ci := 5) (v := .int (nI k1)) (C := RX5) (T := TX5) (N := 14) hx hb hts iX5_step_5 hown hN.1 hB.1 1 rfl rfl 3 (by decide) (hts _ mX5_step_1) (fun _ h9 => h9) rfl dX5_step_52 ?_
    refine lv_aload_n hx hb dX5_step_55 rfl (lv_at hl 0 rfl) ?_
    refine va_get (D := D) (ci := 5) (v := .int (nI f1410_2)) (C := RX5) (T := TX5) (N := 14) hx hb hts iX5_step_5 hown hN.1 hB.1 1 rfl rfl 2 (by decide) (hts _ mX5_step_2) (fun _ h9 => h9) rfl dX5_step_56 ?_
    refine lv_icmp_lt (tgt := 68) hx hb dX5_step_59 (by decide) (fun c1414 => ?_) (fun c1414 => ?_)
    · have c1414 : k1 < f1410_2 := (nI_ltI (a := k1) (b := f1410_2) (by omega) (by omega)).mp c1414
      refine lv_aload_n hx hb dX5_step_68 rfl (lv_at hl 0 rfl) ?_
      refine va_get (D := D) (ci := 5) (v := .ref f1410_0) (C := RX5) (T := TX5) (N := 14) hx hb hts iX5_step_5 hown hN.1 hB.1 1 rfl rfl 0 (by decide) (hts _ mX5_step_3) (fun _ h9 => h9) rfl dX5_step_69 ?_
      refine lv_aload_n hx hb dX5_step_72 rfl (lv_at hl 0 rfl) ?_
      refine va_get (D := D) (ci := 5) (v := .int (nI k1)) (C := RX5) (T := TX5) (N := 14) hx hb hts iX5_step_5 hown hN.1 hB.1 1 rfl rfl 3 (by decide) (hts _ mX5_step_1) (fun _ h9 => h9) rfl dX5_step_73 ?_
      refine ld_b (v := (g1411 k1)) hx hb hN hB.1 0 rfl (vp_in_nI (n := k1) (N := 600) (by omega) (by omega)) (by rw [(show ((nI k1) : Int32).toNatClampNeg = k1 from nI_clamp (n := k1) (by omega))]) dX5_step_76 ?_
      refine gn_i (fun x1415 => ?_)
      refine lv_istore_n (lv' := [(1, .int x1415), (0, .ref w)]) hx hb dX5_step_77 rfl hl (by decide) rfl (fun ls hl => ?_)
      refine lv_iload_n hx hb dX5_step_78 rfl (lv_at hl 0 rfl) ?_
      refine lv_bipush (v := 48) hx hb dX5_step_79 (by decide) ?_
      refine lv_icmp_lt (tgt := 184) hx hb dX5_step_81 (by decide) (fun c1416 => ?_) (fun c1416 => ?_)
      · refine lv_iload_n hx hb dX5_step_184 rfl (lv_at hl 0 rfl) ?_
        refine lv_bipush (v := 97) hx hb dX5_step_185 (by decide) ?_
        refine lv_icmp_lt (tgt := 253) hx hb dX5_step_187 (by decide) (fun c1417 => ?_) (fun c1417 => ?_)
        · refine lv_aload_n hx hb dX5_step_253 rfl (lv_at hl 1 rfl) ?_
          refine lv_iconst (v := 3) hx hb dX5_step_254 (by decide) ?_
          refine b_put (D := D) (ci := 5) (v := .int 3) (ty := .int) (C := RX5) (T := TX5) (N := 14) hx hb hts iX5_step_5 tyX5 tyX5_ok nmX5 hown hN hB 1 rfl rfl 4 (by decide) (hts _ mX5_step_6) (fun _ h9 => h9) rfl (by decide +kernel) rfl rfl (Nat.le_of_ble_eq_true rfl) (.inr ⟨rfl, List.mem_of_getElem? (i := 0) rfl⟩) dX5_step_255 (fun H locs hB => ?_)
          have hB : Bx B0 D _ [(f1410_0, .inl (cs 1, 600, .inl g1411)), (w, .inr (5, [.ref f1410_0, .int (nI ((κ w).2.2.1)), .int (nI f1410_2), .int (nI k1), .int 3, .int (nI k1), .int 0, .int f1410_7, .int f1410_8, .ref f1410_9, .int (nI f1410_10), f1410_11, .int f1410_12, .int f1410_13]))] [w] _ _ := hB
          refine lv_aload_n hx hb dX5_step_258 rfl (lv_at hl 1 rfl) ?_
          refine lv_iload_n hx hb dX5_step_259 rfl (lv_at hl 0 rfl) ?_
          refine b_put (D := D) (ci := 5) (v := .int x1415) (ty := .int) (C := RX5) (T := TX5) (N := 14) hx hb hts iX5_step_5 tyX5 tyX5_ok nmX5 hown hN hB 1 rfl rfl 6 (by decide) (hts _ mX5_step_5) (fun _ h9 => h9) rfl (by decide +kernel) rfl rfl (Nat.le_of_ble_eq_true rfl) (.inr ⟨rfl, List.mem_of_getElem? (i := 0) rfl⟩) dX5_step_260 (fun H locs hB => ?_)
          have hB : Bx B0 D _ [(f1410_0, .inl (cs 1, 600, .inl g1411)), (w, .inr (5, [.ref f1410_0, .int (nI ((κ w).2.2.1)), .int (nI f1410_2), .int (nI k1), .int 3, .int (nI k1), .int x1415, .int f1410_7, .int f1410_8, .ref f1410_9, .int (nI f1410_10), f1410_11, .int f1410_12, .int f1410_13]))] [w] _ _ := hB
          refine lv_aload_n hx hb dX5_step_263 rfl (lv_at hl 1 rfl) ?_
          refine lv_dup hx hb dX5_step_264 rfl ?_
          refine va_get (D := D) (ci := 5) (v := .int (nI k1)) (C := RX5) (T := TX5) (N := 14) hx hb hts iX5_step_5 hown hN.1 hB.1 1 rfl rfl 3 (by decide) (hts _ mX5_step_1) (fun _ h9 => h9) rfl dX5_step_265 ?_
          refine lv_iconst (v := 1) hx hb dX5_step_268 (by decide) ?_
          refine lv_iadd hx hb dX5_step_269 ?_
          refine tp_i (nI (k1 + 1)) (nI_add k1 1) ?_
          refine b_put (D := D) (ci := 5) (v := .int (nI (k1 + 1))) (ty := .int) (C := RX5) (T := TX5) (N := 14) hx hb hts iX5_step_5 tyX5 tyX5_ok nmX5 hown hN hB 1 rfl rfl 3 (by decide) (hts _ mX5_step_1) (fun _ h9 => h9) rfl (by decide +kernel) rfl rfl (Nat.le_of_ble_eq_true rfl) (.inr ⟨rfl, List.mem_of_getElem? (i := 0) rfl⟩) dX5_step_270 (fun H locs hB => ?_)
          have hB : Bx B0 D _ [(f1410_0, .inl (cs 1, 600, .inl g1411)), (w, .inr (5, [.ref f1410_0, .int (nI ((κ w).2.2.1)), .int (nI f1410_2), .int (nI (k1 + 1)), .int 3, .int (nI k1), .int x1415, .int f1410_7, .int f1410_8, .ref f1410_9, .int (nI f1410_10), f1410_11, .int f1410_12, .int f1410_13]))] [w] _ _ := hB
          have hT : WT B0 D cs T κ _ := hT.close hB ⟨⟨1, _, rfl, ok_6 hw.1 ⟨_, _, _, _, _, _, _, _, _, _, _, _, _, rfl, (by omega), (by omega), (by omega), (by omega), (by omega), t1410_0, t1410_9, c1410_11, c1410_p2⟩⟩, trivial⟩
          have hF : Fr B0 [10] κ H0 _ := hF.close hB (fa_c (by simp [hw.2]) fa_n)
          have hL : OkL B0 _ := hB.2.2.2.2.2
          have hP : va_P D vwCl [(f1410_0, .inl (cs 1, 600, .inl g1411)), (w, .inr (5, [.ref f1410_0, .int (nI ((κ w).2.2.1)), .int (nI f1410_2), .int (nI (k1 + 1)), .int 3, .int (nI k1), .int x1415, .int f1410_7, .int f1410_8, .ref f1410_9, .int (nI f1410_10), f1410_11, .int f1410_12, .int f1410_13]))] _ := hB.1
          exact en_v hx hb hr hlocks hL (Nat.zero_le _) (Nat.zero_le _) dX5_step_273 (⟨hT, hF, fun v h9 => ⟨_, hP 1 _ rfl, by rw [FI.eq h9 hat1410 rfl (by decide) rfl]; rfl⟩⟩)
        · refine lv_iload_n hx hb dX5_step_190 rfl (lv_at hl 0 rfl) ?_
          refine lv_bipush (v := 122) hx hb dX5_step_191 (by decide) ?_
          refine lv_icmp_gt (tgt := 253) hx hb dX5_step_193 (by decide) (fun c1418 => ?_) (fun c1418 => ?_)
          · refine lv_aload_n hx hb dX5_step_253 rfl (lv_at hl 1 rfl) ?_
            refine lv_iconst (v := 3) hx hb dX5_step_254 (by decide) ?_
            refine b_put (D := D) (ci := 5) (v := .int 3) (ty := .int) (C := RX5) (T := TX5) (N := 14) hx hb hts iX5_step_5 tyX5 tyX5_ok nmX5 hown hN hB 1 rfl rfl 4 (by decide) (hts _ mX5_step_6) (fun _ h9 => h9) rfl (by decide +kernel) rfl rfl (Nat.le_of_ble_eq_true rfl) (.inr ⟨rfl, List.mem_of_getElem? (i := 0) rfl⟩) dX5_step_255 (fun H locs hB => ?_)
            have hB : Bx B0 D _ [(f1410_0, .inl (cs 1, 600, .inl g1411)), (w, .inr (5, [.ref f1410_0, .int (nI ((κ w).2.2.1)), .int (nI f1410_2), .int (nI k1), .int 3, .int (nI k1), .int 0, .int f1410_7, .int f1410_8, .ref f1410_9, .int (nI f1410_10), f1410_11, .int f1410_12, .int f1410_13]))] [w] _ _ := hB
            refine lv_aload_n hx hb dX5_step_258 rfl (lv_at hl 1 rfl) ?_
            refine lv_iload_n hx hb dX5_step_259 rfl (lv_at hl 0 rfl) ?_
            refine b_put (D := D) (ci := 5) (v := .int x1415) (ty := .int) (C := RX5) (T := TX5) (N := 14) hx hb hts iX5_step_5 tyX5 tyX5_ok nmX5 hown hN hB 1 rfl rfl 6 (by decide) (hts _ mX5_step_5) (fun _ h9 => h9) rfl (by decide +kernel) rfl rfl (Nat.le_of_ble_eq_true rfl) (.inr ⟨rfl, List.mem_of_getElem? (i := 0) rfl⟩) dX5_step_260 (fun H locs hB => ?_)
            have hB : Bx B0 D _ [(f1410_0, .inl (cs 1, 600, .inl g1411)), (w, .inr (5, [.ref f1410_0, .int (nI ((κ w).2.2.1)), .int (nI f1410_2), .int (nI k1), .int 3, .int (nI k1), .int x1415, .int f1410_7, .int f1410_8, .ref f1410_9, .int (nI f1410_10), f1410_11, .int f1410_12, .int f1410_13]))] [w] _ _ := hB
            refine lv_aload_n hx hb dX5_step_263 rfl (lv_at hl 1 rfl) ?_
            refine lv_dup hx hb dX5_step_264 rfl ?_
            refine va_get (D := D) (ci := 5) (v := .int (nI k1)) (C := RX5) (T := TX5) (N := 14) hx hb hts iX5_step_5 hown hN.1 hB.1 1 rfl rfl 3 (by decide) (hts _ mX5_step_1) (fun _ h9 => h9) rfl dX5_step_265 ?_
            refine lv_iconst (v := 1) hx hb dX5_step_268 (by decide) ?_
            refine lv_iadd hx hb dX5_step_269 ?_
            refine tp_i (nI (k1 + 1)) (nI_add k1 1) ?_
            refine b_put (D := D) (ci := 5) (v := .int (nI (k1 + 1))) (ty := .int) (C := RX5) (T := TX5) (N := 14) hx hb hts iX5_step_5 tyX5 tyX5_ok nmX5 hown hN hB 1 rfl rfl 3 (by decide) (hts _ mX5_step_1) (fun _ h9 => h9) rfl (by decide +kernel) rfl rfl (Nat.le_of_ble_eq_true rfl) (.inr ⟨rfl, List.mem_of_getElem? (i := 0) rfl⟩) dX5_step_270 (fun H locs hB => ?_)
            have hB : Bx B0 D _ [(f1410_0, .inl (cs 1, 600, .inl g1411)), (w, .inr (5, [.ref f1410_0, .int (nI ((κ w).2.2.1)), .int (nI f1410_2), .int (nI (k1 + 1)), .int 3, .int (nI k1), .int x1415, .int f1410_7, .int f1410_8, .ref f1410_9, .int (nI f1410_10), f1410_11, .int f1410_12, .int f1410_13]))] [w] _ _ := hB
            have hT : WT B0 D cs T κ _ := hT.close hB ⟨⟨1, _, rfl, ok_6 hw.1 ⟨_, _, _, _, _, _, _, _, _, _, _, _, _, rfl, (by omega), (by omega), (by omega), (by omega), (by omega), t1410_0, t1410_9, c1410_11, c1410_p2⟩⟩, trivial⟩
            have hF : Fr B0 [10] κ H0 _ := hF.close hB (fa_c (by simp [hw.2]) fa_n)
            have hL : OkL B0 _ := hB.2.2.2.2.2
            have hP : va_P D vwCl [(f1410_0, .inl (cs 1, 600, .inl g1411)), (w, .inr (5, [.ref f1410_0, .int (nI ((κ w).2.2.1)), .int (nI f1410_2), .int (nI (k1 + 1)), .int 3, .int (nI k1), .int x1415, .int f1410_7, .int f1410_8, .ref f1410_9, .int (nI f1410_10), f1410_11, .int f1410_12, .int f1410_13]))] _ := hB.1
            exact en_v hx hb hr hlocks hL (Nat.zero_le _) (Nat.zero_le _) dX5_step_273 (⟨hT, hF, fun v h9 => ⟨_, hP 1 _ rfl, by rw [FI.eq h9 hat1410 rfl (by decide) rfl]; rfl⟩⟩)
          · refine lv_aload_n hx hb dX5_step_196 rfl (lv_at hl 1 rfl) ?_
            refine lv_iconst (v := 2) hx hb dX5_step_197 (by decide) ?_
            refine b_put (D := D) (ci := 5) (v := .int 2) (ty := .int) (C := RX5) (T := TX5) (N := 14) hx hb hts iX5_step_5 tyX5 tyX5_ok nmX5 hown hN hB 1 rfl rfl 4 (by decide) (hts _ mX5_step_6) (fun _ h9 => h9) rfl (by decide +kernel) rfl rfl (Nat.le_of_ble_eq_true rfl) (.inr ⟨rfl, List.mem_of_getElem? (i := 0) rfl⟩) dX5_step_198 (fun H locs hB => ?_)
            have hB : Bx B0 D _ [(f1410_0, .inl (cs 1, 600, .inl g1411)), (w, .inr (5, [.ref f1410_0, .int (nI ((κ w).2.2.1)), .int (nI f1410_2), .int (nI k1), .int 2, .int (nI k1), .int 0, .int f1410_7, .int f1410_8, .ref f1410_9, .int (nI f1410_10), f1410_11, .int f1410_12, .int f1410_13]))] [w] _ _ := hB
            have hB : Bx B0 D _ [(f1410_0, .inl (cs 1, 600, .inl g1411)), (w, .inr (5, [.ref f1410_0, .int (nI ((κ w).2.2.1)), .int (nI f1410_2), .int (nI k1), .int 2, .int (nI k1), .int 0, .int f1410_7, .int f1410_8, .ref f1410_9, .int (nI f1410_10), f1410_11, .int f1410_12, .int f1410_13]))] [w] _ _ := hB.ms (by simp) (fa_c hb1410 fa_n)
            refine lp_m (α := Nat) (nL := 3) (fun a9 => 600 - a9) (fun a9 H9 l9 => (a9 ≤ 600) ∧ (Bx B0 D H0 [(f1410_0, .inl (cs 1, 600, .inl g1411)), (w, .inr (5, [.ref f1410_0, .int (nI ((κ w).2.2.1)), .int (nI f1410_2), .int (nI a9), .int 2, .int (nI k1), .int 0, .int f1410_7, .int f1410_8, .ref f1410_9, .int (nI f1410_10), f1410_11, .int f1410_12, .int f1410_13]))] [w] H9 l9)) (fun a9 => [(0, .ref w)]) ?_ k1 _ _ _ ⟨(by show (k1) ≤ 600; omega), hB⟩ (lv_sub hl [1] rfl)
            rintro k3 H locs ls ih1419 ⟨hk3, hB⟩ hl
            have hl : lv_has ls 3 [(0, .ref w)] := hl
            have hk3 : k3 ≤ 600 := hk3
            have hB : Bx B0 D _ [(f1410_0, .inl (cs 1, 600, .inl g1411)), (w, .inr (5, [.ref f1410_0, .int (nI ((κ w).2.2.1)), .int (nI f1410_2), .int (nI k3), .int 2, .int (nI k1), .int 0, .int f1410_7, .int f1410_8, .ref f1410_9, .int (nI f1410_10), f1410_11, .int f1410_12, .int f1410_13]))] [w] _ _ := hB
            refine lv_aload_n hx hb dX5_step_201 rfl (lv_at hl 0 rfl) ?_
            refine va_get (D := D) (ci := 5) (v := .int (nI k3)) (C := RX5) (T := TX5) (N := 14) hx hb hts iX5_step_5 hown hN.1 hB.1 1 rfl rfl 3 (by decide) (hts _ mX5_step_1) (fun _ h9 => h9) rfl dX5_step_202 ?_
            refine lv_aload_n hx hb dX5_step_205 rfl (lv_at hl 0 rfl) ?_
            refine va_get (D := D) (ci := 5) (v := .int (nI f1410_2)) (C := RX5) (T := TX5) (N := 14) hx hb hts iX5_step_5 hown hN.1 hB.1 1 rfl rfl 2 (by decide) (hts _ mX5_step_2) (fun _ h9 => h9) rfl dX5_step_206 ?_
            refine lv_icmp_ge (tgt := 273) hx hb dX5_step_209 (by decide) (fun c1420 => ?_) (fun c1420 => ?_)
            · have c1420 : f1410_2 ≤ k3 := (nI_leI (a := f1410_2) (b := k3) (by omega) (by omega)).mp c1420
              have hT : WT B0 D cs T κ _ := hT.close hB ⟨⟨1, _, rfl, ok_6 hw.1 ⟨_, _, _, _, _, _, _, _, _, _, _, _, _, rfl, (by omega), (by omega), (by omega), (by omega), (by omega), t1410_0, t1410_9, c1410_11, c1410_p2⟩⟩, trivial⟩
              have hF : Fr B0 [10] κ H0 _ := hF.close hB (fa_c (by simp [hw.2]) fa_n)
              have hL : OkL B0 _ := hB.2.2.2.2.2
              have hP : va_P D vwCl [(f1410_0, .inl (cs 1, 600, .inl g1411)), (w, .inr (5, [.ref f1410_0, .int (nI ((κ w).2.2.1)), .int (nI f1410_2), .int (nI k3), .int 2, .int (nI k1), .int 0, .int f1410_7, .int f1410_8, .ref f1410_9, .int (nI f1410_10), f1410_11, .int f1410_12, .int f1410_13]))] _ := hB.1
              exact en_v hx hb hr hlocks hL (Nat.zero_le _) (Nat.zero_le _) dX5_step_273 (⟨hT, hF, fun v h9 => ⟨_, hP 1 _ rfl, by rw [FI.eq h9 hat1410 rfl (by decide) rfl]; rfl⟩⟩)
            · have c1420 : ¬ f1410_2 ≤ k3 := fun h9 => c1420 ((nI_leI (a := f1410_2) (b := k3) (by omega) (by omega)).mpr h9)
              refine lv_aload_n hx hb dX5_step_212 rfl (lv_at hl 0 rfl) ?_
              refine va_get (D := D) (ci := 5) (v := .ref f1410_0) (C := RX5) (T := TX5) (N := 14) hx hb hts iX5_step_5 hown hN.1 hB.1 1 rfl rfl 0 (by decide) (hts _ mX5_step_3) (fun _ h9 => h9) rfl dX5_step_213 ?_
              refine lv_aload_n hx hb dX5_step_216 rfl (lv_at hl 0 rfl) ?_
              refine va_get (D := D) (ci := 5) (v := .int (nI k3)) (C := RX5) (T := TX5) (N := 14) hx hb hts iX5_step_5 hown hN.1 hB.1 1 rfl rfl 3 (by decide) (hts _ mX5_step_1) (fun _ h9 => h9) rfl dX5_step_217 ?_
              refine ld_b (v := (g1411 k3)) hx hb hN hB.1 0 rfl (vp_in_nI (n := k3) (N := 600) (by omega) (by omega)) (by rw [(show ((nI k3) : Int32).toNatClampNeg = k3 from nI_clamp (n := k3) (by omega))]) dX5_step_220 ?_
              refine gn_i (fun x1421 => ?_)
              refine lv_bipush (v := 97) hx hb dX5_step_221 (by decide) ?_
              refine lv_icmp_lt (tgt := 273) hx hb dX5_step_223 (by decide) (fun c1422 => ?_) (fun c1422 => ?_)
              · have hT : WT B0 D cs T κ _ := hT.close hB ⟨⟨1, _, rfl, ok_6 hw.1 ⟨_, _, _, _, _, _, _, _, _, _, _, _, _, rfl, (by omega), (by omega), (by omega), (by omega), (by omega), t1410_0, t1410_9, c1410_11, c1410_p2⟩⟩, trivial⟩
                have hF : Fr B0 [10] κ H0 _ := hF.close hB (fa_c (by simp [hw.2]) fa_n)
                have hL : OkL B0 _ := hB.2.2.2.2.2
                have hP : va_P D vwCl [(f1410_0, .inl (cs 1, 600, .inl g1411)), (w, .inr (5, [.ref f1410_0, .int (nI ((κ w).2.2.1)), .int (nI f1410_2), .int (nI k3), .int 2, .int (nI k1), .int 0, .int f1410_7, .int f1410_8, .ref f1410_9, .int (nI f1410_10), f1410_11, .int f1410_12, .int f1410_13]))] _ := hB.1
                exact en_v hx hb hr hlocks hL (Nat.zero_le _) (Nat.zero_le _) dX5_step_273 (⟨hT, hF, fun v h9 => ⟨_, hP 1 _ rfl, by rw [FI.eq h9 hat1410 rfl (by decide) rfl]; rfl⟩⟩)
              · refine lv_aload_n hx hb dX5_step_226 rfl (lv_at hl 0 rfl) ?_
                refine va_get (D := D) (ci := 5) (v := .ref f1410_0) (C := RX5) (T := TX5) (N := 14) hx hb hts iX5_step_5 hown hN.1 hB.1 1 rfl rfl 0 (by decide) (hts _ mX5_step_3) (fun _ h9 => h9) rfl dX5_step_227 ?_
                refine lv_aload_n hx hb dX5_step_230 rfl (lv_at hl 0 rfl) ?_
                refine va_get (D := D) (ci := 5) (v := .int (nI k3)) (C := RX5) (T := TX5) (N := 14) hx hb hts iX5_step_5 hown hN.1 hB.1 1 rfl rfl 3 (by decide) (hts _ mX5_step_1) (fun _ h9 => h9) rfl dX5_step_231 ?_
                refine ld_b (v := (g1411 k3)) hx hb hN hB.1 0 rfl (vp_in_nI (n := k3) (N := 600) (by omega) (by omega)) (by rw [(show ((nI k3) : Int32).toNatClampNeg = k3 from nI_clamp (n := k3) (by omega))]) dX5_step_234 ?_
                refine gn_i (fun x1423 => ?_)
                refine lv_bipush (v := 122) hx hb dX5_step_235 (by decide) ?_
                refine lv_icmp_gt (tgt := 273) hx hb dX5_step_237 (by decide) (fun c1424 => ?_) (fun c1424 => ?_)
                · have hT : WT B0 D cs T κ _ := hT.close hB ⟨⟨1, _, rfl, ok_6 hw.1 ⟨_, _, _, _, _, _, _, _, _, _, _, _, _, rfl, (by omega), (by omega), (by omega), (by omega), (by omega), t1410_0, t1410_9, c1410_11, c1410_p2⟩⟩, trivial⟩
                  have hF : Fr B0 [10] κ H0 _ := hF.close hB (fa_c (by simp [hw.2]) fa_n)
                  have hL : OkL B0 _ := hB.2.2.2.2.2
                  have hP : va_P D vwCl [(f1410_0, .inl (cs 1, 600, .inl g1411)), (w, .inr (5, [.ref f1410_0, .int (nI ((κ w).2.2.1)), .int (nI f1410_2), .int (nI k3), .int 2, .int (nI k1), .int 0, .int f1410_7, .int f1410_8, .ref f1410_9, .int (nI f1410_10), f1410_11, .int f1410_12, .int f1410_13]))] _ := hB.1
                  exact en_v hx hb hr hlocks hL (Nat.zero_le _) (Nat.zero_le _) dX5_step_273 (⟨hT, hF, fun v h9 => ⟨_, hP 1 _ rfl, by rw [FI.eq h9 hat1410 rfl (by decide) rfl]; rfl⟩⟩)
                · refine lv_aload_n hx hb dX5_step_240 rfl (lv_at hl 0 rfl) ?_
                  refine lv_dup hx hb dX5_step_241 rfl ?_
                  refine va_get (D := D) (ci := 5) (v := .int (nI k3)) (C := RX5) (T := TX5) (N := 14) hx hb hts iX5_step_5 hown hN.1 hB.1 1 rfl rfl 3 (by decide) (hts _ mX5_step_1) (fun _ h9 => h9) rfl dX5_step_242 ?_
                  refine lv_iconst (v := 1) hx hb dX5_step_245 (by decide) ?_
                  refine lv_iadd hx hb dX5_step_246 ?_
                  refine tp_i (nI (k3 + 1)) (nI_add k3 1) ?_
                  refine b_put (D := D) (ci := 5) (v := .int (nI (k3 + 1))) (ty := .int) (C := RX5) (T := TX5) (N := 14) hx hb hts iX5_step_5 tyX5 tyX5_ok nmX5 hown hN hB 1 rfl rfl 3 (by decide) (hts _ mX5_step_1) (fun _ h9 => h9) rfl (by decide +kernel) rfl rfl (Nat.le_of_ble_eq_true rfl) (.inr ⟨rfl, List.mem_of_getElem? (i := 0) rfl⟩) dX5_step_247 (fun H locs hB => ?_)
                  have hB : Bx B0 D _ [(f1410_0, .inl (cs 1, 600, .inl g1411)), (w, .inr (5, [.ref f1410_0, .int (nI ((κ w).2.2.1)), .int (nI f1410_2), .int (nI (k3 + 1)), .int 2, .int (nI k1), .int 0, .int f1410_7, .int f1410_8, .ref f1410_9, .int (nI f1410_10), f1410_11, .int f1410_12, .int f1410_13]))] [w] _ _ := hB
                  refine lv_goto (tgt := 201) hx hb dX5_step_250 (by decide) ?_
                  exact ih1419 (k3 + 1) _ _ _ (by show 600 - ((k3 + 1)) < 600 - k3; omega) ⟨(by show ((k3 + 1)) ≤ 600; omega), hB⟩ (lv_sub hl [0] rfl)
      · refine lv_iload_n hx hb dX5_step_84 rfl (lv_at hl 0 rfl) ?_
        refine lv_bipush (v := 57) hx hb dX5_step_85 (by decide) ?_
        refine lv_icmp_gt (tgt := 184) hx hb dX5_step_87 (by decide) (fun c1425 => ?_) (fun c1425 => ?_)
        · refine lv_iload_n hx hb dX5_step_184 rfl (lv_at hl 0 rfl) ?_
          refine lv_bipush (v := 97) hx hb dX5_step_185 (by decide) ?_
          refine lv_icmp_lt (tgt := 253) hx hb dX5_step_187 (by decide) (fun c1426 => ?_) (fun c1426 => ?_)
          · refine lv_aload_n hx hb dX5_step_253 rfl (lv_at hl 1 rfl) ?_
            refine lv_iconst (v := 3) hx hb dX5_step_254 (by decide) ?_
            refine b_put (D := D) (ci := 5) (v := .int 3) (ty := .int) (C := RX5) (T := TX5) (N := 14) hx hb hts iX5_step_5 tyX5 tyX5_ok nmX5 hown hN hB 1 rfl rfl 4 (by decide) (hts _ mX5_step_6) (fun _ h9 => h9) rfl (by decide +kernel) rfl rfl (Nat.le_of_ble_eq_true rfl) (.inr ⟨rfl, List.mem_of_getElem? (i := 0) rfl⟩) dX5_step_255 (fun H locs hB => ?_)
            have hB : Bx B0 D _ [(f1410_0, .inl (cs 1, 600, .inl g1411)), (w, .inr (5, [.ref f1410_0, .int (nI ((κ w).2.2.1)), .int (nI f1410_2), .int (nI k1), .int 3, .int (nI k1), .int 0, .int f1410_7, .int f1410_8, .ref f1410_9, .int (nI f1410_10), f1410_11, .int f1410_12, .int f1410_13]))] [w] _ _ := hB
            refine lv_aload_n hx hb dX5_step_258 rfl (lv_at hl 1 rfl) ?_
            refine lv_iload_n hx hb dX5_step_259 rfl (lv_at hl 0 rfl) ?_
            refine b_put (D := D) (ci := 5) (v := .int x1415) (ty := .int) (C := RX5) (T := TX5) (N := 14) hx hb hts iX5_step_5 tyX5 tyX5_ok nmX5 hown hN hB 1 rfl rfl 6 (by decide) (hts _ mX5_step_5) (fun _ h9 => h9) rfl (by decide +kernel) rfl rfl (Nat.le_of_ble_eq_true rfl) (.inr ⟨rfl, List.mem_of_getElem? (i := 0) rfl⟩) dX5_step_260 (fun H locs hB => ?_)
            have hB : Bx B0 D _ [(f1410_0, .inl (cs 1, 600, .inl g1411)), (w, .inr (5, [.ref f1410_0, .int (nI ((κ w).2.2.1)), .int (nI f1410_2), .int (nI k1), .int 3, .int (nI k1), .int x1415, .int f1410_7, .int f1410_8, .ref f1410_9, .int (nI f1410_10), f1410_11, .int f1410_12, .int f1410_13]))] [w] _ _ := hB
            refine lv_aload_n hx hb dX5_step_263 rfl (lv_at hl 1 rfl) ?_
            refine lv_dup hx hb dX5_step_264 rfl ?_
            refine va_get (D := D) (ci := 5) (v := .int (nI k1)) (C := RX5) (T := TX5) (N := 14) hx hb hts iX5_step_5 hown hN.1 hB.1 1 rfl rfl 3 (by decide) (hts _ mX5_step_1) (fun _ h9 => h9) rfl dX5_step_265 ?_
            refine lv_iconst (v := 1) hx hb dX5_step_268 (by decide) ?_
            refine lv_iadd hx hb dX5_step_269 ?_
            refine tp_i (nI (k1 + 1)) (nI_add k1 1) ?_
            refine b_put (D := D) (ci := 5) (v := .int (nI (k1 + 1))) (ty := .int) (C := RX5) (T := TX5) (N := 14) hx hb hts iX5_step_5 tyX5 tyX5_ok nmX5 hown hN hB 1 rfl rfl 3 (by decide) (hts _ mX5_step_1) (fun _ h9 => h9) rfl (by decide +kernel) rfl rfl (Nat.le_of_ble_eq_true rfl) (.inr ⟨rfl, List.mem_of_getElem? (i := 0) rfl⟩) dX5_step_270 (fun H locs hB => ?_)
            have hB : Bx B0 D _ [(f1410_0, .inl (cs 1, 600, .inl g1411)), (w, .inr (5, [.ref f1410_0, .int (nI ((κ w).2.2.1)), .int (nI f1410_2), .int (nI (k1 + 1)), .int 3, .int (nI k1), .int x1415, .int f1410_7, .int f1410_8, .ref f1410_9, .int (nI f1410_10), f1410_11, .int f1410_12, .int f1410_13]))] [w] _ _ := hB
            have hT : WT B0 D cs T κ _ := hT.close hB ⟨⟨1, _, rfl, ok_6 hw.1 ⟨_, _, _, _, _, _, _, _, _, _, _, _, _, rfl, (by omega), (by omega), (by omega), (by omega), (by omega), t1410_0, t1410_9, c1410_11, c1410_p2⟩⟩, trivial⟩
            have hF : Fr B0 [10] κ H0 _ := hF.close hB (fa_c (by simp [hw.2]) fa_n)
            have hL : OkL B0 _ := hB.2.2.2.2.2
            have hP : va_P D vwCl [(f1410_0, .inl (cs 1, 600, .inl g1411)), (w, .inr (5, [.ref f1410_0, .int (nI ((κ w).2.2.1)), .int (nI f1410_2), .int (nI (k1 + 1)), .int 3, .int (nI k1), .int x1415, .int f1410_7, .int f1410_8, .ref f1410_9, .int (nI f1410_10), f1410_11, .int f1410_12, .int f1410_13]))] _ := hB.1
            exact en_v hx hb hr hlocks hL (Nat.zero_le _) (Nat.zero_le _) dX5_step_273 (⟨hT, hF, fun v h9 => ⟨_, hP 1 _ rfl, by rw [FI.eq h9 hat1410 rfl (by decide) rfl]; rfl⟩⟩)
          · refine lv_iload_n hx hb dX5_step_190 rfl (lv_at hl 0 rfl) ?_
            refine lv_bipush (v := 122) hx hb dX5_step_191 (by decide) ?_
            refine lv_icmp_gt (tgt := 253) hx hb dX5_step_193 (by decide) (fun c1427 => ?_) (fun c1427 => ?_)
            · refine lv_aload_n hx hb dX5_step_253 rfl (lv_at hl 1 rfl) ?_
              refine lv_iconst (v := 3) hx hb dX5_step_254 (by decide) ?_
              refine b_put (D := D) (ci := 5) (v := .int 3) (ty := .int) (C := RX5) (T := TX5) (N := 14) hx hb hts iX5_step_5 tyX5 tyX5_ok nmX5 hown hN hB 1 rfl rfl 4 (by decide) (hts _ mX5_step_6) (fun _ h9 => h9) rfl (by decide +kernel) rfl rfl (Nat.le_of_ble_eq_true rfl) (.inr ⟨rfl, List.mem_of_getElem? (i := 0) rfl⟩) dX5_step_255 (fun H locs hB => ?_)
              have hB : Bx B0 D _ [(f1410_0, .inl (cs 1, 600, .inl g1411)), (w, .inr (5, [.ref f1410_0, .int (nI ((κ w).2.2.1)), .int (nI f1410_2), .int (nI k1), .int 3, .int (nI k1), .int 0, .int f1410_7, .int f1410_8, .ref f1410_9, .int (nI f1410_10), f1410_11, .int f1410_12, .int f1410_13]))] [w] _ _ := hB
              refine lv_aload_n hx hb dX5_step_258 rfl (lv_at hl 1 rfl) ?_
              refine lv_iload_n hx hb dX5_step_259 rfl (lv_at hl 0 rfl) ?_
              refine b_put (D := D) (ci := 5) (v := .int x1415) (ty := .int) (C := RX5) (T := TX5) (N := 14) hx hb hts iX5_step_5 tyX5 tyX5_ok nmX5 hown hN hB 1 rfl rfl 6 (by decide) (hts _ mX5_step_5) (fun _ h9 => h9) rfl (by decide +kernel) rfl rfl (Nat.le_of_ble_eq_true rfl) (.inr ⟨rfl, List.mem_of_getElem? (i := 0) rfl⟩) dX5_step_260 (fun H locs hB => ?_)
              have hB : Bx B0 D _ [(f1410_0, .inl (cs 1, 600, .inl g1411)), (w, .inr (5, [.ref f1410_0, .int (nI ((κ w).2.2.1)), .int (nI f1410_2), .int (nI k1), .int 3, .int (nI k1), .int x1415, .int f1410_7, .int f1410_8, .ref f1410_9, .int (nI f1410_10), f1410_11, .int f1410_12, .int f1410_13]))] [w] _ _ := hB
              refine lv_aload_n hx hb dX5_step_263 rfl (lv_at hl 1 rfl) ?_
              refine lv_dup hx hb dX5_step_264 rfl ?_
              refine va_get (D := D) (ci := 5) (v := .int (nI k1)) (C := RX5) (T := TX5) (N := 14) hx hb hts iX5_step_5 hown hN.1 hB.1 1 rfl rfl 3 (by decide) (hts _ mX5_step_1) (fun _ h9 => h9) rfl dX5_step_265 ?_
              refine lv_iconst (v := 1) hx hb dX5_step_268 (by decide) ?_
              refine lv_iadd hx hb dX5_step_269 ?_
              refine tp_i (nI (k1 + 1)) (nI_add k1 1) ?_
              refine b_put (D := D) (ci := 5) (v := .int (nI (k1 + 1))) (ty := .int) (C := RX5) (T := TX5) (N := 14) hx hb hts iX5_step_5 tyX5 tyX5_ok nmX5 hown hN hB 1 rfl rfl 3 (by decide) (hts _ mX5_step_1) (fun _ h9 => h9) rfl (by decide +kernel) rfl rfl (Nat.le_of_ble_eq_true rfl) (.inr ⟨rfl, List.mem_of_getElem? (i := 0) rfl⟩) dX5_step_270 (fun H locs hB => ?_)
              have hB : Bx B0 D _ [(f1410_0, .inl (cs 1, 600, .inl g1411)), (w, .inr (5, [.ref f1410_0, .int (nI ((κ w).2.2.1)), .int (nI f1410_2), .int (nI (k1 + 1)), .int 3, .int (nI k1), .int x1415, .int f1410_7, .int f1410_8, .ref f1410_9, .int (nI f1410_10), f1410_11, .int f1410_12, .int f1410_13]))] [w] _ _ := hB
              have hT : WT B0 D cs T κ _ := hT.close hB ⟨⟨1, _, rfl, ok_6 hw.1 ⟨_, _, _, _, _, _, _, _, _, _, _, _, _, rfl, (by omega), (by omega), (by omega), (by omega), (by omega), t1410_0, t1410_9, c1410_11, c1410_p2⟩⟩, trivial⟩
              have hF : Fr B0 [10] κ H0 _ := hF.close hB (fa_c (by simp [hw.2]) fa_n)
              have hL : OkL B0 _ := hB.2.2.2.2.2
              have hP : va_P D vwCl [(f1410_0, .inl (cs 1, 600, .inl g1411)), (w, .inr (5, [.ref f1410_0, .int (nI ((κ w).2.2.1)), .int (nI f1410_2), .int (nI (k1 + 1)), .int 3, .int (nI k1), .int x1415, .int f1410_7, .int f1410_8, .ref f1410_9, .int (nI f1410_10), f1410_11, .int f1410_12, .int f1410_13]))] _ := hB.1
              exact en_v hx hb hr hlocks hL (Nat.zero_le _) (Nat.zero_le _) dX5_step_273 (⟨hT, hF, fun v h9 => ⟨_, hP 1 _ rfl, by rw [FI.eq h9 hat1410 rfl (by decide) rfl]; rfl⟩⟩)
            · refine lv_aload_n hx hb dX5_step_196 rfl (lv_at hl 1 rfl) ?_
              refine lv_iconst (v := 2) hx hb dX5_step_197 (by decide) ?_
              refine b_put (D := D) (ci := 5) (v := .int 2) (ty := .int) (C := RX5) (T := TX5) (N := 14) hx hb hts iX5_step_5 tyX5 tyX5_ok nmX5 hown hN hB 1 rfl rfl 4 (by decide) (hts _ mX5_step_6) (fun _ h9 => h9) rfl (by decide +kernel) rfl rfl (Nat.le_of_ble_eq_true rfl) (.inr ⟨rfl, List.mem_of_getElem? (i := 0) rfl⟩) dX5_step_198 (fun H locs hB => ?_)
              have hB : Bx B0 D _ [(f1410_0, .inl (cs 1, 600, .inl g1411)), (w, .inr (5, [.ref f1410_0, .int (nI ((κ w).2.2.1)), .int (nI f1410_2), .int (nI k1), .int 2, .int (nI k1), .int 0, .int f1410_7, .int f1410_8, .ref f1410_9, .int (nI f1410_10), f1410_11, .int f1410_12, .int f1410_13]))] [w] _ _ := hB
              have hB : Bx B0 D _ [(f1410_0, .inl (cs 1, 600, .inl g1411)), (w, .inr (5, [.ref f1410_0, .int (nI ((κ w).2.2.1)), .int (nI f1410_2), .int (nI k1), .int 2, .int (nI k1), .int 0, .int f1410_7, .int f1410_8, .ref f1410_9, .int (nI f1410_10), f1410_11, .int f1410_12, .int f1410_13]))] [w] _ _ := hB.ms (by simp) (fa_c hb1410 fa_n)
              refine lp_m (α := Nat) (nL := 3) (fun a9 => 600 - a9) (fun a9 H9 l9 => (a9 ≤ 600) ∧ (Bx B0 D H0 [(f1410_0, .inl (cs 1, 600, .inl g1411)), (w, .inr (5, [.ref f1410_0, .int (nI ((κ w).2.2.1)), .int (nI f1410_2), .int (nI a9), .int 2, .int (nI k1), .int 0, .int f1410_7, .int f1410_8, .ref f1410_9, .int (nI f1410_10), f1410_11, .int f1410_12, .int f1410_13]))] [w] H9 l9)) (fun a9 => [(0, .ref w)]) ?_ k1 _ _ _ ⟨(by show (k1) ≤ 600; omega), hB⟩ (lv_sub hl [1] rfl)
              rintro k3 H locs ls ih1428 ⟨hk3, hB⟩ hl
              have hl : lv_has ls 3 [(0, .ref w)] := hl
              have hk3 : k3 ≤ 600 := hk3
              have hB : Bx B0 D _ [(f1410_0, .inl (cs 1, 600, .inl g1411)), (w, .inr (5, [.ref f1410_0, .int (nI ((κ w).2.2.1)), .int (nI f1410_2), .int (nI k3), .int 2, .int (nI k1), .int 0, .int f1410_7, .int f1410_8, .ref f1410_9, .int (nI f1410_10), f1410_11, .int f1410_12, .int f1410_13]))] [w] _ _ := hB
              refine lv_aload_n hx hb dX5_step_201 rfl (lv_at hl 0 rfl) ?_
              refine va_get (D := D) (ci := 5) (v := .int (nI k3)) (C := RX5) (T := TX5) (N := 14) hx hb hts iX5_step_5 hown hN.1 hB.1 1 rfl rfl 3 (by decide) (hts _ mX5_step_1) (fun _ h9 => h9) rfl dX5_step_202 ?_
              refine lv_aload_n hx hb dX5_step_205 rfl (lv_at hl 0 rfl) ?_
              refine va_get (D := D) (ci := 5) (v := .int (nI f1410_2)) (C := RX5) (T := TX5) (N := 14) hx hb hts iX5_step_5 hown hN.1 hB.1 1 rfl rfl 2 (by decide) (hts _ mX5_step_2) (fun _ h9 => h9) rfl dX5_step_206 ?_
              refine lv_icmp_ge (tgt := 273) hx hb dX5_step_209 (by decide) (fun c1429 => ?_) (fun c1429 => ?_)
              · have c1429 : f1410_2 ≤ k3 := (nI_leI (a := f1410_2) (b := k3) (by omega) (by omega)).mp c1429
                have hT : WT B0 D cs T κ _ := hT.close hB ⟨⟨1, _, rfl, ok_6 hw.1 ⟨_, _, _, _, _, _, _, _, _, _, _, _, _, rfl, (by omega), (by omega), (by omega), (by omega), (by omega), t1410_0, t1410_9, c1410_11, c1410_p2⟩⟩, trivial⟩
                have hF : Fr B0 [10] κ H0 _ := hF.close hB (fa_c (by simp [hw.2]) fa_n)
                have hL : OkL B0 _ := hB.2.2.2.2.2
                have hP : va_P D vwCl [(f1410_0, .inl (cs 1, 600, .inl g1411)), (w, .inr (5, [.ref f1410_0, .int (nI ((κ w).2.2.1)), .int (nI f1410_2), .int (nI k3), .int 2, .int (nI k1), .int 0, .int f1410_7, .int f1410_8, .ref f1410_9, .int (nI f1410_10), f1410_11, .int f1410_12, .int f1410_13]))] _ := hB.1
                exact en_v hx hb hr hlocks hL (Nat.zero_le _) (Nat.zero_le _) dX5_step_273 (⟨hT, hF, fun v h9 => ⟨_, hP 1 _ rfl, by rw [FI.eq h9 hat1410 rfl (by decide) rfl]; rfl⟩⟩)
              · have c1429 : ¬ f1410_2 ≤ k3 := fun h9 => c1429 ((nI_leI (a := f1410_2) (b := k3) (by omega) (by omega)).mpr h9)
                refine lv_aload_n hx hb dX5_step_212 rfl (lv_at hl 0 rfl) ?_
                refine va_get (D := D) (ci := 5) (v := .ref f1410_0) (C := RX5) (T := TX5) (N := 14) hx hb hts iX5_step_5 hown hN.1 hB.1 1 rfl rfl 0 (by decide) (hts _ mX5_step_3) (fun _ h9 => h9) rfl dX5_step_213 ?_
                refine lv_aload_n hx hb dX5_step_216 rfl (lv_at hl 0 rfl) ?_
                refine va_get (D := D) (ci := 5) (v := .int (nI k3)) (C := RX5) (T := TX5) (N := 14) hx hb hts iX5_step_5 hown hN.1 hB.1 1 rfl rfl 3 (by decide) (hts _ mX5_step_1) (fun _ h9 => h9) rfl dX5_step_217 ?_
                refine ld_b (v := (g1411 k3)) hx hb hN hB.1 0 rfl (vp_in_nI (n := k3) (N := 600) (by omega) (by omega)) (by rw [(show ((nI k3) : Int32).toNatClampNeg = k3 from nI_clamp (n := k3) (by omega))]) dX5_step_220 ?_
                refine gn_i (fun x1430 => ?_)
                refine lv_bipush (v := 97) hx hb dX5_step_221 (by decide) ?_
                refine lv_icmp_lt (tgt := 273) hx hb dX5_step_223 (by decide) (fun c1431 => ?_) (fun c1431 => ?_)
                · have hT : WT B0 D cs T κ _ := hT.close hB ⟨⟨1, _, rfl, ok_6 hw.1 ⟨_, _, _, _, _, _, _, _, _, _, _, _, _, rfl, (by omega), (by omega), (by omega), (by omega), (by omega), t1410_0, t1410_9, c1410_11, c1410_p2⟩⟩, trivial⟩
                  have hF : Fr B0 [10] κ H0 _ := hF.close hB (fa_c (by simp [hw.2]) fa_n)
                  have hL : OkL B0 _ := hB.2.2.2.2.2
                  have hP : va_P D vwCl [(f1410_0, .inl (cs 1, 600, .inl g1411)), (w, .inr (5, [.ref f1410_0, .int (nI ((κ w).2.2.1)), .int (nI f1410_2), .int (nI k3), .int 2, .int (nI k1), .int 0, .int f1410_7, .int f1410_8, .ref f1410_9, .int (nI f1410_10), f1410_11, .int f1410_12, .int f1410_13]))] _ := hB.1
                  exact en_v hx hb hr hlocks hL (Nat.zero_le _) (Nat.zero_le _) dX5_step_273 (⟨hT, hF, fun v h9 => ⟨_, hP 1 _ rfl, by rw [FI.eq h9 hat1410 rfl (by decide) rfl]; rfl⟩⟩)
                · refine lv_aload_n hx hb dX5_step_226 rfl (lv_at hl 0 rfl) ?_
                  refine va_get (D := D) (ci := 5) (v := .ref f1410_0) (C := RX5) (T := TX5) (N := 14) hx hb hts iX5_step_5 hown hN.1 hB.1 1 rfl rfl 0 (by decide) (hts _ mX5_step_3) (fun _ h9 => h9) rfl dX5_step_227 ?_
                  refine lv_aload_n hx hb dX5_step_230 rfl (lv_at hl 0 rfl) ?_
                  refine va_get (D := D) (ci := 5) (v := .int (nI k3)) (C := RX5) (T := TX5) (N := 14) hx hb hts iX5_step_5 hown hN.1 hB.1 1 rfl rfl 3 (by decide) (hts _ mX5_step_1) (fun _ h9 => h9) rfl dX5_step_231 ?_
                  refine ld_b (v := (g1411 k3)) hx hb hN hB.1 0 rfl (vp_in_nI (n := k3) (N := 600) (by omega) (by omega)) (by rw [(show ((nI k3) : Int32).toNatClampNeg = k3 from nI_clamp (n := k3) (by omega))]) dX5_step_234 ?_
                  refine gn_i (fun x1432 => ?_)
                  refine lv_bipush (v := 122) hx hb dX5_step_235 (by decide) ?_
                  refine lv_icmp_gt (tgt := 273) hx hb dX5_step_237 (by decide) (fun c1433 => ?_) (fun c1433 => ?_)
                  · have hT : WT B0 D cs T κ _ := hT.close hB ⟨⟨1, _, rfl, ok_6 hw.1 ⟨_, _, _, _, _, _, _, _, _, _, _, _, _, rfl, (by omega), (by omega), (by omega), (by omega), (by omega), t1410_0, t1410_9, c1410_11, c1410_p2⟩⟩, trivial⟩
                    have hF : Fr B0 [10] κ H0 _ := hF.close hB (fa_c (by simp [hw.2]) fa_n)
                    have hL : OkL B0 _ := hB.2.2.2.2.2
                    have hP : va_P D vwCl [(f1410_0, .inl (cs 1, 600, .inl g1411)), (w, .inr (5, [.ref f1410_0, .int (nI ((κ w).2.2.1)), .int (nI f1410_2), .int (nI k3), .int 2, .int (nI k1), .int 0, .int f1410_7, .int f1410_8, .ref f1410_9, .int (nI f1410_10), f1410_11, .int f1410_12, .int f1410_13]))] _ := hB.1
                    exact en_v hx hb hr hlocks hL (Nat.zero_le _) (Nat.zero_le _) dX5_step_273 (⟨hT, hF, fun v h9 => ⟨_, hP 1 _ rfl, by rw [FI.eq h9 hat1410 rfl (by decide) rfl]; rfl⟩⟩)
                  · refine lv_aload_n hx hb dX5_step_240 rfl (lv_at hl 0 rfl) ?_
                    refine lv_dup hx hb dX5_step_241 rfl ?_
                    refine va_get (D := D) (ci := 5) (v := .int (nI k3)) (C := RX5) (T := TX5) (N := 14) hx hb hts iX5_step_5 hown hN.1 hB.1 1 rfl rfl 3 (by decide) (hts _ mX5_step_1) (fun _ h9 => h9) rfl dX5_step_242 ?_
                    refine lv_iconst (v := 1) hx hb dX5_step_245 (by decide) ?_
                    refine lv_iadd hx hb dX5_step_246 ?_
                    refine tp_i (nI (k3 + 1)) (nI_add k3 1) ?_
                    refine b_put (D := D) (ci := 5) (v := .int (nI (k3 + 1))) (ty := .int) (C := RX5) (T := TX5) (N := 14) hx hb hts iX5_step_5 tyX5 tyX5_ok nmX5 hown hN hB 1 rfl rfl 3 (by decide) (hts _ mX5_step_1) (fun _ h9 => h9) rfl (by decide +kernel) rfl rfl (Nat.le_of_ble_eq_true rfl) (.inr ⟨rfl, List.mem_of_getElem? (i := 0) rfl⟩) dX5_step_247 (fun H locs hB => ?_)
                    have hB : Bx B0 D _ [(f1410_0, .inl (cs 1, 600, .inl g1411)), (w, .inr (5, [.ref f1410_0, .int (nI ((κ w).2.2.1)), .int (nI f1410_2), .int (nI (k3 + 1)), .int 2, .int (nI k1), .int 0, .int f1410_7, .int f1410_8, .ref f1410_9, .int (nI f1410_10), f1410_11, .int f1410_12, .int f1410_13]))] [w] _ _ := hB
                    refine lv_goto (tgt := 201) hx hb dX5_step_250 (by decide) ?_
                    exact ih1428 (k3 + 1) _ _ _ (by show 600 - ((k3 + 1)) < 600 - k3; omega) ⟨(by show ((k3 + 1)) ≤ 600; omega), hB⟩ (lv_sub hl [0] rfl)
        · refine lv_aload_n hx hb dX5_step_90 rfl (lv_at hl 1 rfl) ?_
          refine lv_iconst (v := 1) hx hb dX5_step_91 (by decide) ?_
          refine b_put (D := D) (ci := 5) (v := .int 1) (ty := .int) (C := RX5) (T := TX5) (N := 14) hx hb hts iX5_step_5 tyX5 tyX5_ok nmX5 hown hN hB 1 rfl rfl 4 (by decide) (hts _ mX5_step_6) (fun _ h9 => h9) rfl (by decide +kernel) rfl rfl (Nat.le_of_ble_eq_true rfl) (.inr ⟨rfl, List.mem_of_getElem? (i := 0) rfl⟩) dX5_step_92 (fun H locs hB => ?_)
          have hB : Bx B0 D _ [(f1410_0, .inl (cs 1, 600, .inl g1411)), (w, .inr (5, [.ref f1410_0, .int (nI ((κ w).2.2.1)), .int (nI f1410_2), .int (nI k1), .int 1, .int (nI k1), .int 0, .int f1410_7, .int f1410_8, .ref f1410_9, .int (nI f1410_10), f1410_11, .int f1410_12, .int f1410_13]))] [w] _ _ := hB
          have hB : Bx B0 D _ [(f1410_0, .inl (cs 1, 600, .inl g1411)), (w, .inr (5, [.ref f1410_0, .int (nI ((κ w).2.2.1)), .int (nI f1410_2), .int (nI k1), .int 1, .int (nI k1), .int 0, .int f1410_7, .int f1410_8, .ref f1410_9, .int (nI f1410_10), f1410_11, .int f1410_12, .int f1410_13]))] [w] _ _ := hB.ms (by simp) (fa_c hb1410 fa_n)
          refine lp_m (α := Nat × Int32) (nL := 3) (fun a9 => 600 - a9.1) (fun a9 H9 l9 => (a9.1 ≤ 600) ∧ (Bx B0 D H0 [(f1410_0, .inl (cs 1, 600, .inl g1411)), (w, .inr (5, [.ref f1410_0, .int (nI ((κ w).2.2.1)), .int (nI f1410_2), .int (nI a9.1), .int 1, .int (nI k1), .int a9.2, .int f1410_7, .int f1410_8, .ref f1410_9, .int (nI f1410_10), f1410_11, .int f1410_12, .int f1410_13]))] [w] H9 l9)) (fun a9 => [(0, .ref w)]) ?_ (k1, 0) _ _ _ ⟨(by show (k1) ≤ 600; omega), hB⟩ (lv_sub hl [1] rfl)
          rintro ⟨k2, v2⟩ H locs ls ih1434 ⟨hk2, hB⟩ hl
          have hl : lv_has ls 3 [(0, .ref w)] := hl
          have hk2 : k2 ≤ 600 := hk2
          have hB : Bx B0 D _ [(f1410_0, .inl (cs 1, 600, .inl g1411)), (w, .inr (5, [.ref f1410_0, .int (nI ((κ w).2.2.1)), .int (nI f1410_2), .int (nI k2), .int 1, .int (nI k1), .int v2, .int f1410_7, .int f1410_8, .ref f1410_9, .int (nI f1410_10), f1410_11, .int f1410_12, .int f1410_13]))] [w] _ _ := hB
          refine lv_aload_n hx hb dX5_step_95 rfl (lv_at hl 0 rfl) ?_
          refine va_get (D := D) (ci := 5) (v := .int (nI k2)) (C := RX5) (T := TX5) (N := 14) hx hb hts iX5_step_5 hown hN.1 hB.1 1 rfl rfl 3 (by decide) (hts _ mX5_step_1) (fun _ h9 => h9) rfl dX5_step_96 ?_
          refine lv_aload_n hx hb dX5_step_99 rfl (lv_at hl 0 rfl) ?_
          refine va_get (D := D) (ci := 5) (v := .int (nI f1410_2)) (C := RX5) (T := TX5) (N := 14) hx hb hts iX5_step_5 hown hN.1 hB.1 1 rfl rfl 2 (by decide) (hts _ mX5_step_2) (fun _ h9 => h9) rfl dX5_step_100 ?_
          refine lv_icmp_ge (tgt := 273) hx hb dX5_step_103 (by decide) (fun c1435 => ?_) (fun c1435 => ?_)
          · have c1435 : f1410_2 ≤ k2 := (nI_leI (a := f1410_2) (b := k2) (by omega) (by omega)).mp c1435
            have hT : WT B0 D cs T κ _ := hT.close hB ⟨⟨1, _, rfl, ok_6 hw.1 ⟨_, _, _, _, _, _, _, _, _, _, _, _, _, rfl, (by omega), (by omega), (by omega), (by omega), (by omega), t1410_0, t1410_9, c1410_11, c1410_p2⟩⟩, trivial⟩
            have hF : Fr B0 [10] κ H0 _ := hF.close hB (fa_c (by simp [hw.2]) fa_n)
            have hL : OkL B0 _ := hB.2.2.2.2.2
            have hP : va_P D vwCl [(f1410_0, .inl (cs 1, 600, .inl g1411)), (w, .inr (5, [.ref f1410_0, .int (nI ((κ w).2.2.1)), .int (nI f1410_2), .int (nI k2), .int 1, .int (nI k1), .int v2, .int f1410_7, .int f1410_8, .ref f1410_9, .int (nI f1410_10), f1410_11, .int f1410_12, .int f1410_13]))] _ := hB.1
            exact en_v hx hb hr hlocks hL (Nat.zero_le _) (Nat.zero_le _) dX5_step_273 (⟨hT, hF, fun v h9 => ⟨_, hP 1 _ rfl, by rw [FI.eq h9 hat1410 rfl (by decide) rfl]; rfl⟩⟩)
          · have c1435 : ¬ f1410_2 ≤ k2 := fun h9 => c1435 ((nI_leI (a := f1410_2) (b := k2) (by omega) (by omega)).mpr h9)
            refine lv_aload_n hx hb dX5_step_106 rfl (lv_at hl 0 rfl) ?_
            refine va_get (D := D) (ci := 5) (v := .ref f1410_0) (C := RX5) (T := TX5) (N := 14) hx hb hts iX5_step_5 hown hN.1 hB.1 1 rfl rfl 0 (by decide) (hts _ mX5_step_3) (fun _ h9 => h9) rfl dX5_step_107 ?_
            refine lv_aload_n hx hb dX5_step_110 rfl (lv_at hl 0 rfl) ?_
            refine va_get (D := D) (ci := 5) (v := .int (nI k2)) (C := RX5) (T := TX5) (N := 14) hx hb hts iX5_step_5 hown hN.1 hB.1 1 rfl rfl 3 (by decide) (hts _ mX5_step_1) (fun _ h9 => h9) rfl dX5_step_111 ?_
            refine ld_b (v := (g1411 k2)) hx hb hN hB.1 0 rfl (vp_in_nI (n := k2) (N := 600) (by omega) (by omega)) (by rw [(show ((nI k2) : Int32).toNatClampNeg = k2 from nI_clamp (n := k2) (by omega))]) dX5_step_114 ?_
            refine gn_i (fun x1436 => ?_)
            refine lv_bipush (v := 48) hx hb dX5_step_115 (by decide) ?_
            refine lv_icmp_lt (tgt := 273) hx hb dX5_step_117 (by decide) (fun c1437 => ?_) (fun c1437 => ?_)
            · have hT : WT B0 D cs T κ _ := hT.close hB ⟨⟨1, _, rfl, ok_6 hw.1 ⟨_, _, _, _, _, _, _, _, _, _, _, _, _, rfl, (by omega), (by omega), (by omega), (by omega), (by omega), t1410_0, t1410_9, c1410_11, c1410_p2⟩⟩, trivial⟩
              have hF : Fr B0 [10] κ H0 _ := hF.close hB (fa_c (by simp [hw.2]) fa_n)
              have hL : OkL B0 _ := hB.2.2.2.2.2
              have hP : va_P D vwCl [(f1410_0, .inl (cs 1, 600, .inl g1411)), (w, .inr (5, [.ref f1410_0, .int (nI ((κ w).2.2.1)), .int (nI f1410_2), .int (nI k2), .int 1, .int (nI k1), .int v2, .int f1410_7, .int f1410_8, .ref f1410_9, .int (nI f1410_10), f1410_11, .int f1410_12, .int f1410_13]))] _ := hB.1
              exact en_v hx hb hr hlocks hL (Nat.zero_le _) (Nat.zero_le _) dX5_step_273 (⟨hT, hF, fun v h9 => ⟨_, hP 1 _ rfl, by rw [FI.eq h9 hat1410 rfl (by decide) rfl]; rfl⟩⟩)
            · refine lv_aload_n hx hb dX5_step_120 rfl (lv_at hl 0 rfl) ?_
              refine va_get (D := D) (ci := 5) (v := .ref f1410_0) (C := RX5) (T := TX5) (N := 14) hx hb hts iX5_step_5 hown hN.1 hB.1 1 rfl rfl 0 (by decide) (hts _ mX5_step_3) (fun _ h9 => h9) rfl dX5_step_121 ?_
              refine lv_aload_n hx hb dX5_step_124 rfl (lv_at hl 0 rfl) ?_
              refine va_get (D := D) (ci := 5) (v := .int (nI k2)) (C := RX5) (T := TX5) (N := 14) hx hb hts iX5_step_5 hown hN.1 hB.1 1 rfl rfl 3 (by decide) (hts _ mX5_step_1) (fun _ h9 => h9) rfl dX5_step_125 ?_
              refine ld_b (v := (g1411 k2)) hx hb hN hB.1 0 rfl (vp_in_nI (n := k2) (N := 600) (by omega) (by omega)) (by rw [(show ((nI k2) : Int32).toNatClampNeg = k2 from nI_clamp (n := k2) (by omega))]) dX5_step_128 ?_
              refine gn_i (fun x1438 => ?_)
              refine lv_bipush (v := 57) hx hb dX5_step_129 (by decide) ?_
              refine lv_icmp_gt (tgt := 273) hx hb dX5_step_131 (by decide) (fun c1439 => ?_) (fun c1439 => ?_)
              · have hT : WT B0 D cs T κ _ := hT.close hB ⟨⟨1, _, rfl, ok_6 hw.1 ⟨_, _, _, _, _, _, _, _, _, _, _, _, _, rfl, (by omega), (by omega), (by omega), (by omega), (by omega), t1410_0, t1410_9, c1410_11, c1410_p2⟩⟩, trivial⟩
                have hF : Fr B0 [10] κ H0 _ := hF.close hB (fa_c (by simp [hw.2]) fa_n)
                have hL : OkL B0 _ := hB.2.2.2.2.2
                have hP : va_P D vwCl [(f1410_0, .inl (cs 1, 600, .inl g1411)), (w, .inr (5, [.ref f1410_0, .int (nI ((κ w).2.2.1)), .int (nI f1410_2), .int (nI k2), .int 1, .int (nI k1), .int v2, .int f1410_7, .int f1410_8, .ref f1410_9, .int (nI f1410_10), f1410_11, .int f1410_12, .int f1410_13]))] _ := hB.1
                exact en_v hx hb hr hlocks hL (Nat.zero_le _) (Nat.zero_le _) dX5_step_273 (⟨hT, hF, fun v h9 => ⟨_, hP 1 _ rfl, by rw [FI.eq h9 hat1410 rfl (by decide) rfl]; rfl⟩⟩)
              · refine lv_bipush (v := 10) hx hb dX5_step_134 (by decide) ?_
                refine lv_aload_n hx hb dX5_step_136 rfl (lv_at hl 0 rfl) ?_
                refine va_get (D := D) (ci := 5) (v := .int v2) (C := RX5) (T := TX5) (N := 14) hx hb hts iX5_step_5 hown hN.1 hB.1 1 rfl rfl 6 (by decide) (hts _ mX5_step_5) (fun _ h9 => h9) rfl dX5_step_137 ?_
                refine lv_imul hx hb dX5_step_140 ?_
                refine gn_i (fun x1440 => ?_)
                refine lv_aload_n hx hb dX5_step_141 rfl (lv_at hl 0 rfl) ?_
                refine va_get (D := D) (ci := 5) (v := .ref f1410_0) (C := RX5) (T := TX5) (N := 14) hx hb hts iX5_step_5 hown hN.1 hB.1 1 rfl rfl 0 (by decide) (hts _ mX5_step_3) (fun _ h9 => h9) rfl dX5_step_142 ?_
                refine lv_aload_n hx hb dX5_step_145 rfl (lv_at hl 0 rfl) ?_
                refine va_get (D := D) (ci := 5) (v := .int (nI k2)) (C := RX5) (T := TX5) (N := 14) hx hb hts iX5_step_5 hown hN.1 hB.1 1 rfl rfl 3 (by decide) (hts _ mX5_step_1) (fun _ h9 => h9) rfl dX5_step_146 ?_
                refine ld_b (v := (g1411 k2)) hx hb hN hB.1 0 rfl (vp_in_nI (n := k2) (N := 600) (by omega) (by omega)) (by rw [(show ((nI k2) : Int32).toNatClampNeg = k2 from nI_clamp (n := k2) (by omega))]) dX5_step_149 ?_
                refine gn_i (fun x1441 => ?_)
                refine lv_iadd hx hb dX5_step_150 ?_
                refine gn_i (fun x1442 => ?_)
                refine lv_bipush (v := 48) hx hb dX5_step_151 (by decide) ?_
                refine lv_isub hx hb dX5_step_153 ?_
                refine gn_i (fun x1443 => ?_)
                refine lv_istore_n (lv' := [(2, .int x1443), (0, .ref w)]) hx hb dX5_step_154 rfl hl (by decide) rfl (fun ls hl => ?_)
                refine lv_aload_n hx hb dX5_step_155 rfl (lv_at hl 1 rfl) ?_
                refine lv_iload_n hx hb dX5_step_156 rfl (lv_at hl 0 rfl) ?_
                refine lv_ldc (v := 1000000) hx hb hown (hts _ mX5_step_7) dX5_step_157 ?_
                refine lv_icmp_ge (tgt := 166) hx hb dX5_step_159 (by decide) (fun c1444 => ?_) (fun c1444 => ?_)
                · refine lv_ldc (v := 1000000) hx hb hown (hts _ mX5_step_7) dX5_step_166 ?_
                  refine b_put (D := D) (ci := 5) (v := .int 1000000) (ty := .int) (C := RX5) (T := TX5) (N := 14) hx hb hts iX5_step_5 tyX5 tyX5_ok nmX5 hown hN hB 1 rfl rfl 6 (by decide) (hts _ mX5_step_5) (fun _ h9 => h9) rfl (by decide +kernel) rfl rfl (Nat.le_of_ble_eq_true rfl) (.inr ⟨rfl, List.mem_of_getElem? (i := 0) rfl⟩) dX5_step_168 (fun H locs hB => ?_)
                  have hB : Bx B0 D _ [(f1410_0, .inl (cs 1, 600, .inl g1411)), (w, .inr (5, [.ref f1410_0, .int (nI ((κ w).2.2.1)), .int (nI f1410_2), .int (nI k2), .int 1, .int (nI k1), .int 1000000, .int f1410_7, .int f1410_8, .ref f1410_9, .int (nI f1410_10), f1410_11, .int f1410_12, .int f1410_13]))] [w] _ _ := hB
                  refine lv_aload_n hx hb dX5_step_171 rfl (lv_at hl 1 rfl) ?_
                  refine lv_dup hx hb dX5_step_172 rfl ?_
                  refine va_get (D := D) (ci := 5) (v := .int (nI k2)) (C := RX5) (T := TX5) (N := 14) hx hb hts iX5_step_5 hown hN.1 hB.1 1 rfl rfl 3 (by decide) (hts _ mX5_step_1) (fun _ h9 => h9) rfl dX5_step_173 ?_
                  refine lv_iconst (v := 1) hx hb dX5_step_176 (by decide) ?_
                  refine lv_iadd hx hb dX5_step_177 ?_
                  refine tp_i (nI (k2 + 1)) (nI_add k2 1) ?_
                  refine b_put (D := D) (ci := 5) (v := .int (nI (k2 + 1))) (ty := .int) (C := RX5) (T := TX5) (N := 14) hx hb hts iX5_step_5 tyX5 tyX5_ok nmX5 hown hN hB 1 rfl rfl 3 (by decide) (hts _ mX5_step_1) (fun _ h9 => h9) rfl (by decide +kernel) rfl rfl (Nat.le_of_ble_eq_true rfl) (.inr ⟨rfl, List.mem_of_getElem? (i := 0) rfl⟩) dX5_step_178 (fun H locs hB => ?_)
                  have hB : Bx B0 D _ [(f1410_0, .inl (cs 1, 600, .inl g1411)), (w, .inr (5, [.ref f1410_0, .int (nI ((κ w).2.2.1)), .int (nI f1410_2), .int (nI (k2 + 1)), .int 1, .int (nI k1), .int 1000000, .int f1410_7, .int f1410_8, .ref f1410_9, .int (nI f1410_10), f1410_11, .int f1410_12, .int f1410_13]))] [w] _ _ := hB
                  refine lv_goto (tgt := 95) hx hb dX5_step_181 (by decide) ?_
                  exact ih1434 ((k2 + 1), 1000000) _ _ _ (by show 600 - ((k2 + 1)) < 600 - k2; omega) ⟨(by show ((k2 + 1)) ≤ 600; omega), hB⟩ (lv_sub hl [1] rfl)
                · refine lv_iload_n hx hb dX5_step_162 rfl (lv_at hl 0 rfl) ?_
                  refine lv_goto (tgt := 168) hx hb dX5_step_163 (by decide) ?_
                  refine b_put (D := D) (ci := 5) (v := .int x1443) (ty := .int) (C := RX5) (T := TX5) (N := 14) hx hb hts iX5_step_5 tyX5 tyX5_ok nmX5 hown hN hB 1 rfl rfl 6 (by decide) (hts _ mX5_step_5) (fun _ h9 => h9) rfl (by decide +kernel) rfl rfl (Nat.le_of_ble_eq_true rfl) (.inr ⟨rfl, List.mem_of_getElem? (i := 0) rfl⟩) dX5_step_168 (fun H locs hB => ?_)
                  have hB : Bx B0 D _ [(f1410_0, .inl (cs 1, 600, .inl g1411)), (w, .inr (5, [.ref f1410_0, .int (nI ((κ w).2.2.1)), .int (nI f1410_2), .int (nI k2), .int 1, .int (nI k1), .int x1443, .int f1410_7, .int f1410_8, .ref f1410_9, .int (nI f1410_10), f1410_11, .int f1410_12, .int f1410_13]))] [w] _ _ := hB
                  refine lv_aload_n hx hb dX5_step_171 rfl (lv_at hl 1 rfl) ?_
                  refine lv_dup hx hb dX5_step_172 rfl ?_
                  refine va_get (D := D) (ci := 5) (v := .int (nI k2)) (C := RX5) (T := TX5) (N := 14) hx hb hts iX5_step_5 hown hN.1 hB.1 1 rfl rfl 3 (by decide) (hts _ mX5_step_1) (fun _ h9 => h9) rfl dX5_step_173 ?_
                  refine lv_iconst (v := 1) hx hb dX5_step_176 (by decide) ?_
                  refine lv_iadd hx hb dX5_step_177 ?_
                  refine tp_i (nI (k2 + 1)) (nI_add k2 1) ?_
                  refine b_put (D := D) (ci := 5) (v := .int (nI (k2 + 1))) (ty := .int) (C := RX5) (T := TX5) (N := 14) hx hb hts iX5_step_5 tyX5 tyX5_ok nmX5 hown hN hB 1 rfl rfl 3 (by decide) (hts _ mX5_step_1) (fun _ h9 => h9) rfl (by decide +kernel) rfl rfl (Nat.le_of_ble_eq_true rfl) (.inr ⟨rfl, List.mem_of_getElem? (i := 0) rfl⟩) dX5_step_178 (fun H locs hB => ?_)
                  have hB : Bx B0 D _ [(f1410_0, .inl (cs 1, 600, .inl g1411)), (w, .inr (5, [.ref f1410_0, .int (nI ((κ w).2.2.1)), .int (nI f1410_2), .int (nI (k2 + 1)), .int 1, .int (nI k1), .int x1443, .int f1410_7, .int f1410_8, .ref f1410_9, .int (nI f1410_10), f1410_11, .int f1410_12, .int f1410_13]))] [w] _ _ := hB
                  refine lv_goto (tgt := 95) hx hb dX5_step_181 (by decide) ?_
                  exact ih1434 ((k2 + 1), x1443) _ _ _ (by show 600 - ((k2 + 1)) < 600 - k2; omega) ⟨(by show ((k2 + 1)) ≤ 600; omega), hB⟩ (lv_sub hl [1] rfl)
    · have c1414 : ¬ k1 < f1410_2 := fun h9 => c1414 ((nI_ltI (a := k1) (b := f1410_2) (by omega) (by omega)).mpr h9)
      refine lv_aload_n hx hb dX5_step_62 rfl (lv_at hl 0 rfl) ?_
      refine lv_iconst (v := 0) hx hb dX5_step_63 (by decide) ?_
      refine b_put (D := D) (ci := 5) (v := .int 0) (ty := .int) (C := RX5) (T := TX5) (N := 14) hx hb hts iX5_step_5 tyX5 tyX5_ok nmX5 hown hN hB 1 rfl rfl 4 (by decide) (hts _ mX5_step_6) (fun _ h9 => h9) rfl (by decide +kernel) rfl rfl (Nat.le_of_ble_eq_true rfl) (.inr ⟨rfl, List.mem_of_getElem? (i := 0) rfl⟩) dX5_step_64 (fun H locs hB => ?_)
      have hB : Bx B0 D _ [(f1410_0, .inl (cs 1, 600, .inl g1411)), (w, .inr (5, [.ref f1410_0, .int (nI ((κ w).2.2.1)), .int (nI f1410_2), .int (nI k1), .int 0, .int (nI k1), .int 0, .int f1410_7, .int f1410_8, .ref f1410_9, .int (nI f1410_10), f1410_11, .int f1410_12, .int f1410_13]))] [w] _ _ := hB
      have hT : WT B0 D cs T κ _ := hT.close hB ⟨⟨1, _, rfl, ok_6 hw.1 ⟨_, _, _, _, _, _, _, _, _, _, _, _, _, rfl, (by omega), (by omega), (by omega), (by omega), (by omega), t1410_0, t1410_9, c1410_11, c1410_p2⟩⟩, trivial⟩
      have hF : Fr B0 [10] κ H0 _ := hF.close hB (fa_c (by simp [hw.2]) fa_n)
      have hL : OkL B0 _ := hB.2.2.2.2.2
      have hP : va_P D vwCl [(f1410_0, .inl (cs 1, 600, .inl g1411)), (w, .inr (5, [.ref f1410_0, .int (nI ((κ w).2.2.1)), .int (nI f1410_2), .int (nI k1), .int 0, .int (nI k1), .int 0, .int f1410_7, .int f1410_8, .ref f1410_9, .int (nI f1410_10), f1410_11, .int f1410_12, .int f1410_13]))] _ := hB.1
      exact en_v hx hb hr hlocks hL (Nat.zero_le _) (Nat.zero_le _) dX5_step_67 (⟨hT, hF, fun v h9 => ⟨_, hP 1 _ rfl, by rw [FI.eq h9 hat1410 rfl (by decide) rfl]; rfl⟩⟩)
  · have c1413 : ¬ f1410_2 ≤ k1 := fun h9 => c1413 ((nI_leI (a := f1410_2) (b := k1) (by omega) (by omega)).mpr h9)
    refine lv_aload_n hx hb dX5_step_11 rfl (lv_at hl 0 rfl) ?_
    refine va_get (D := D) (ci := 5) (v := .ref f1410_0) (C := RX5) (T := TX5) (N := 14) hx hb hts iX5_step_5 hown hN.1 hB.1 1 rfl rfl 0 (by decide) (hts _ mX5_step_3) (fun _ h9 => h9) rfl dX5_step_12 ?_
    refine lv_aload_n hx hb dX5_step_15 rfl (lv_at hl 0 rfl) ?_
    refine va_get (D := D) (ci := 5) (v := .int (nI k1)) (C := RX5) (T := TX5) (N := 14) hx hb hts iX5_step_5 hown hN.1 hB.1 1 rfl rfl 3 (by decide) (hts _ mX5_step_1) (fun _ h9 => h9) rfl dX5_step_16 ?_
    refine ld_b (v := (g1411 k1)) hx hb hN hB.1 0 rfl (vp_in_nI (n := k1) (N := 600) (by omega) (by omega)) (by rw [(show ((nI k1) : Int32).toNatClampNeg = k1 from nI_clamp (n := k1) (by omega))]) dX5_step_19 ?_
    refine gn_i (fun x1445 => ?_)
    refine lv_bipush (v := 32) hx hb dX5_step_20 (by decide) ?_
    refine lv_icmp_ne (tgt := 38) hx hb dX5_step_22 (by decide) (fun c1446 => ?_) (fun c1446 => ?_)
    · refine lv_aload_n hx hb dX5_step_38 rfl (lv_at hl 0 rfl) ?_
      refine lv_aload_n hx hb dX5_step_39 rfl (lv_at hl 0 rfl) ?_
      refine va_get (D := D) (ci := 5) (v := .int (nI k1)) (C := RX5) (T := TX5) (N := 14) hx hb hts iX5_step_5 hown hN.1 hB.1 1 rfl rfl 3 (by decide) (hts _ mX5_step_1) (fun _ h9 => h9) rfl dX5_step_40 ?_
      refine b_put (D := D) (ci := 5) (v := .int (nI k1)) (ty := .int) (C := RX5) (T := TX5) (N := 14) hx hb hts iX5_step_5 tyX5 tyX5_ok nmX5 hown hN hB 1 rfl rfl 5 (by decide) (hts _ mX5_step_4) (fun _ h9 => h9) rfl (by decide +kernel) rfl rfl (Nat.le_of_ble_eq_true rfl) (.inr ⟨rfl, List.mem_of_getElem? (i := 0) rfl⟩) dX5_step_43 (fun H locs hB => ?_)
      have hB : Bx B0 D _ [(f1410_0, .inl (cs 1, 600, .inl g1411)), (w, .inr (5, [.ref f1410_0, .int (nI ((κ w).2.2.1)), .int (nI f1410_2), .int (nI k1), .int f1410_4, .int (nI k1), .int f1410_6, .int f1410_7, .int f1410_8, .ref f1410_9, .int (nI f1410_10), f1410_11, .int f1410_12, .int f1410_13]))] [w] _ _ := hB
      refine lv_aload_n hx hb dX5_step_46 rfl (lv_at hl 0 rfl) ?_
      refine lv_iconst (v := 0) hx hb dX5_step_47 (by decide) ?_
      refine b_put (D := D) (ci := 5) (v := .int 0) (ty := .int) (C := RX5) (T := TX5) (N := 14) hx hb hts iX5_step_5 tyX5 tyX5_ok nmX5 hown hN hB 1 rfl rfl 6 (by decide) (hts _ mX5_step_5) (fun _ h9 => h9) rfl (by decide +kernel) rfl rfl (Nat.le_of_ble_eq_true rfl) (.inr ⟨rfl, List.mem_of_getElem? (i := 0) rfl⟩) dX5_step_48 (fun H locs hB => ?_)
      have hB : Bx B0 D _ [(f1410_0, .inl (cs 1, 600, .inl g1411)), (w, .inr (5, [.ref f1410_0, .int (nI ((κ w).2.2.1)), .int (nI f1410_2), .int (nI k1), .int f1410_4, .int (nI k1), .int 0, .int f1410_7, .int f1410_8, .ref f1410_9, .int (nI f1410_10), f1410_11, .int f1410_12, .int f1410_13]))] [w] _ _ := hB
      refine lv_aload_n hx hb dX5_step_51 rfl (lv_at hl 0 rfl) ?_
      refine va_get (D := D) (ci := 5) (v := .int (nI k1)) (C := RX5) (T := TX5) (N := 14) hx hb hts iX5_step_5 hown hN.1 hB.1 1 rfl rfl 3 (by decide) (hts _ mX5_step_1) (fun _ h9 => h9) rfl dX5_step_52 ?_
      refine lv_aload_n hx hb dX5_step_55 rfl (lv_at hl 0 rfl) ?_
      refine va_get (D := D) (ci := 5) (v := .int (nI f1410_2)) (C := RX5) (T := TX5) (N := 14) hx hb hts iX5_step_5 hown hN.1 hB.1 1 rfl rfl 2 (by decide) (hts _ mX5_step_2) (fun _ h9 => h9) rfl dX5_step_56 ?_
      refine lv_icmp_lt (tgt := 68) hx hb dX5_step_59 (by decide) (fun c1447 => ?_) (fun c1447 => ?_)
      · have c1447 : k1 < f1410_2 := (nI_ltI (a := k1) (b := f1410_2) (by omega) (by omega)).mp c1447
        refine lv_aload_n hx hb dX5_step_68 rfl (lv_at hl 0 rfl) ?_
        refine va_get (D := D) (ci := 5) (v := .ref f1410_0) (C := RX5) (T := TX5) (N := 14) hx hb hts iX5_step_5 hown hN.1 hB.1 1 rfl rfl 0 (by decide) (hts _ mX5_step_3) (fun _ h9 => h9) rfl dX5_step_69 ?_
        refine lv_aload_n hx hb dX5_step_72 rfl (lv_at hl 0 rfl) ?_
        refine va_get (D := D) (ci := 5) (v := .int (nI k1)) (C := RX5) (T := TX5) (N := 14) hx hb hts iX5_step_5 hown hN.1 hB.1 1 rfl rfl 3 (by decide) (hts _ mX5_step_1) (fun _ h9 => h9) rfl dX5_step_73 ?_
        refine ld_b (v := (g1411 k1)) hx hb hN hB.1 0 rfl (vp_in_nI (n := k1) (N := 600) (by omega) (by omega)) (by rw [(show ((nI k1) : Int32).toNatClampNeg = k1 from nI_clamp (n := k1) (by omega))]) dX5_step_76 ?_
        refine gn_i (fun x1448 => ?_)
        refine lv_istore_n (lv' := [(1, .int x1448), (0, .ref w)]) hx hb dX5_step_77 rfl hl (by decide) rfl (fun ls hl => ?_)
        refine lv_iload_n hx hb dX5_step_78 rfl (lv_at hl 0 rfl) ?_
        refine lv_bipush (v := 48) hx hb dX5_step_79 (by decide) ?_
        refine lv_icmp_lt (tgt := 184) hx hb dX5_step_81 (by decide) (fun c1449 => ?_) (fun c1449 => ?_)
        · refine lv_iload_n hx hb dX5_step_184 rfl (lv_at hl 0 rfl) ?_
          refine lv_bipush (v := 97) hx hb dX5_step_185 (by decide) ?_
          refine lv_icmp_lt (tgt := 253) hx hb dX5_step_187 (by decide) (fun c1450 => ?_) (fun c1450 => ?_)
          · refine lv_aload_n hx hb dX5_step_253 rfl (lv_at hl 1 rfl) ?_
            refine lv_iconst (v := 3) hx hb dX5_step_254 (by decide) ?_
            refine b_put (D := D) (ci := 5) (v := .int 3) (ty := .int) (C := RX5) (T := TX5) (N := 14) hx hb hts iX5_step_5 tyX5 tyX5_ok nmX5 hown hN hB 1 rfl rfl 4 (by decide) (hts _ mX5_step_6) (fun _ h9 => h9) rfl (by decide +kernel) rfl rfl (Nat.le_of_ble_eq_true rfl) (.inr ⟨rfl, List.mem_of_getElem? (i := 0) rfl⟩) dX5_step_255 (fun H locs hB => ?_)
            have hB : Bx B0 D _ [(f1410_0, .inl (cs 1, 600, .inl g1411)), (w, .inr (5, [.ref f1410_0, .int (nI ((κ w).2.2.1)), .int (nI f1410_2), .int (nI k1), .int 3, .int (nI k1), .int 0, .int f1410_7, .int f1410_8, .ref f1410_9, .int (nI f1410_10), f1410_11, .int f1410_12, .int f1410_13]))] [w] _ _ := hB
            refine lv_aload_n hx hb dX5_step_258 rfl (lv_at hl 1 rfl) ?_
            refine lv_iload_n hx hb dX5_step_259 rfl (lv_at hl 0 rfl) ?_
            refine b_put (D := D) (ci := 5) (v := .int x1448) (ty := .int) (C := RX5) (T := TX5) (N := 14) hx hb hts iX5_step_5 tyX5 tyX5_ok nmX5 hown hN hB 1 rfl rfl 6 (by decide) (hts _ mX5_step_5) (fun _ h9 => h9) rfl (by decide +kernel) rfl rfl (Nat.le_of_ble_eq_true rfl) (.inr ⟨rfl, List.mem_of_getElem? (i := 0) rfl⟩) dX5_step_260 (fun H locs hB => ?_)
            have hB : Bx B0 D _ [(f1410_0, .inl (cs 1, 600, .inl g1411)), (w, .inr (5, [.ref f1410_0, .int (nI ((κ w).2.2.1)), .int (nI f1410_2), .int (nI k1), .int 3, .int (nI k1), .int x1448, .int f1410_7, .int f1410_8, .ref f1410_9, .int (nI f1410_10), f1410_11, .int f1410_12, .int f1410_13]))] [w] _ _ := hB
            refine lv_aload_n hx hb dX5_step_263 rfl (lv_at hl 1 rfl) ?_
            refine lv_dup hx hb dX5_step_264 rfl ?_
            refine va_get (D := D) (ci := 5) (v := .int (nI k1)) (C := RX5) (T := TX5) (N := 14) hx hb hts iX5_step_5 hown hN.1 hB.1 1 rfl rfl 3 (by decide) (hts _ mX5_step_1) (fun _ h9 => h9) rfl dX5_step_265 ?_
            refine lv_iconst (v := 1) hx hb dX5_step_268 (by decide) ?_
            refine lv_iadd hx hb dX5_step_269 ?_
            refine tp_i (nI (k1 + 1)) (nI_add k1 1) ?_
            refine b_put (D := D) (ci := 5) (v := .int (nI (k1 + 1))) (ty := .int) (C := RX5) (T := TX5) (N := 14) hx hb hts iX5_step_5 tyX5 tyX5_ok nmX5 hown hN hB 1 rfl rfl 3 (by decide) (hts _ mX5_step_1) (fun _ h9 => h9) rfl (by decide +kernel) rfl rfl (Nat.le_of_ble_eq_true rfl) (.inr ⟨rfl, List.mem_of_getElem? (i := 0) rfl⟩) dX5_step_270 (fun H locs hB => ?_)
            have hB : Bx B0 D _ [(f1410_0, .inl (cs 1, 600, .inl g1411)), (w, .inr (5, [.ref f1410_0, .int (nI ((κ w).2.2.1)), .int (nI f1410_2), .int (nI (k1 + 1)), .int 3, .int (nI k1), .int x1448, .int f1410_7, .int f1410_8, .ref f1410_9, .int (nI f1410_10), f1410_11, .int f1410_12, .int f1410_13]))] [w] _ _ := hB
            have hT : WT B0 D cs T κ _ := hT.close hB ⟨⟨1, _, rfl, ok_6 hw.1 ⟨_, _, _, _, _, _, _, _, _, _, _, _, _, rfl, (by omega), (by omega), (by omega), (by omega), (by omega), t1410_0, t1410_9, c1410_11, c1410_p2⟩⟩, trivial⟩
            have hF : Fr B0 [10] κ H0 _ := hF.close hB (fa_c (by simp [hw.2]) fa_n)
            have hL : OkL B0 _ := hB.2.2.2.2.2
            have hP : va_P D vwCl [(f1410_0, .inl (cs 1, 600, .inl g1411)), (w, .inr (5, [.ref f1410_0, .int (nI ((κ w).2.2.1)), .int (nI f1410_2), .int (nI (k1 + 1)), .int 3, .int (nI k1), .int x1448, .int f1410_7, .int f1410_8, .ref f1410_9, .int (nI f1410_10), f1410_11, .int f1410_12, .int f1410_13]))] _ := hB.1
            exact en_v hx hb hr hlocks hL (Nat.zero_le _) (Nat.zero_le _) dX5_step_273 (⟨hT, hF, fun v h9 => ⟨_, hP 1 _ rfl, by rw [FI.eq h9 hat1410 rfl (by decide) rfl]; rfl⟩⟩)
          · refine lv_iload_n hx hb dX5_step_190 rfl (lv_at hl 0 rfl) ?_
            refine lv_bipush (v := 122) hx hb dX5_step_191 (by decide) ?_
            refine lv_icmp_gt (tgt := 253) hx hb dX5_step_193 (by decide) (fun c1451 => ?_) (fun c1451 => ?_)
            · refine lv_aload_n hx hb dX5_step_253 rfl (lv_at hl 1 rfl) ?_
              refine lv_iconst (v := 3) hx hb dX5_step_254 (by decide) ?_
              refine b_put (D := D) (ci := 5) (v := .int 3) (ty := .int) (C := RX5) (T := TX5) (N := 14) hx hb hts iX5_step_5 tyX5 tyX5_ok nmX5 hown hN hB 1 rfl rfl 4 (by decide) (hts _ mX5_step_6) (fun _ h9 => h9) rfl (by decide +kernel) rfl rfl (Nat.le_of_ble_eq_true rfl) (.inr ⟨rfl, List.mem_of_getElem? (i := 0) rfl⟩) dX5_step_255 (fun H locs hB => ?_)
              have hB : Bx B0 D _ [(f1410_0, .inl (cs 1, 600, .inl g1411)), (w, .inr (5, [.ref f1410_0, .int (nI ((κ w).2.2.1)), .int (nI f1410_2), .int (nI k1), .int 3, .int (nI k1), .int 0, .int f1410_7, .int f1410_8, .ref f1410_9, .int (nI f1410_10), f1410_11, .int f1410_12, .int f1410_13]))] [w] _ _ := hB
              refine lv_aload_n hx hb dX5_step_258 rfl (lv_at hl 1 rfl) ?_
              refine lv_iload_n hx hb dX5_step_259 rfl (lv_at hl 0 rfl) ?_
              refine b_put (D := D) (ci := 5) (v := .int x1448) (ty := .int) (C := RX5) (T := TX5) (N := 14) hx hb hts iX5_step_5 tyX5 tyX5_ok nmX5 hown hN hB 1 rfl rfl 6 (by decide) (hts _ mX5_step_5) (fun _ h9 => h9) rfl (by decide +kernel) rfl rfl (Nat.le_of_ble_eq_true rfl) (.inr ⟨rfl, List.mem_of_getElem? (i := 0) rfl⟩) dX5_step_260 (fun H locs hB => ?_)
              have hB : Bx B0 D _ [(f1410_0, .inl (cs 1, 600, .inl g1411)), (w, .inr (5, [.ref f1410_0, .int (nI ((κ w).2.2.1)), .int (nI f1410_2), .int (nI k1), .int 3, .int (nI k1), .int x1448, .int f1410_7, .int f1410_8, .ref f1410_9, .int (nI f1410_10), f1410_11, .int f1410_12, .int f1410_13]))] [w] _ _ := hB
              refine lv_aload_n hx hb dX5_step_263 rfl (lv_at hl 1 rfl) ?_
              refine lv_dup hx hb dX5_step_264 rfl ?_
              refine va_get (D := D) (ci := 5) (v := .int (nI k1)) (C := RX5) (T := TX5) (N := 14) hx hb hts iX5_step_5 hown hN.1 hB.1 1 rfl rfl 3 (by decide) (hts _ mX5_step_1) (fun _ h9 => h9) rfl dX5_step_265 ?_
              refine lv_iconst (v := 1) hx hb dX5_step_268 (by decide) ?_
              refine lv_iadd hx hb dX5_step_269 ?_
              refine tp_i (nI (k1 + 1)) (nI_add k1 1) ?_
              refine b_put (D := D) (ci := 5) (v := .int (nI (k1 + 1))) (ty := .int) (C := RX5) (T := TX5) (N := 14) hx hb hts iX5_step_5 tyX5 tyX5_ok nmX5 hown hN hB 1 rfl rfl 3 (by decide) (hts _ mX5_step_1) (fun _ h9 => h9) rfl (by decide +kernel) rfl rfl (Nat.le_of_ble_eq_true rfl) (.inr ⟨rfl, List.mem_of_getElem? (i := 0) rfl⟩) dX5_step_270 (fun H locs hB => ?_)
              have hB : Bx B0 D _ [(f1410_0, .inl (cs 1, 600, .inl g1411)), (w, .inr (5, [.ref f1410_0, .int (nI ((κ w).2.2.1)), .int (nI f1410_2), .int (nI (k1 + 1)), .int 3, .int (nI k1), .int x1448, .int f1410_7, .int f1410_8, .ref f1410_9, .int (nI f1410_10), f1410_11, .int f1410_12, .int f1410_13]))] [w] _ _ := hB
              have hT : WT B0 D cs T κ _ := hT.close hB ⟨⟨1, _, rfl, ok_6 hw.1 ⟨_, _, _, _, _, _, _, _, _, _, _, _, _, rfl, (by omega), (by omega), (by omega), (by omega), (by omega), t1410_0, t1410_9, c1410_11, c1410_p2⟩⟩, trivial⟩
              have hF : Fr B0 [10] κ H0 _ := hF.close hB (fa_c (by simp [hw.2]) fa_n)
              have hL : OkL B0 _ := hB.2.2.2.2.2
              have hP : va_P D vwCl [(f1410_0, .inl (cs 1, 600, .inl g1411)), (w, .inr (5, [.ref f1410_0, .int (nI ((κ w).2.2.1)), .int (nI f1410_2), .int (nI (k1 + 1)), .int 3, .int (nI k1), .int x1448, .int f1410_7, .int f1410_8, .ref f1410_9, .int (nI f1410_10), f1410_11, .int f1410_12, .int f1410_13]))] _ := hB.1
              exact en_v hx hb hr hlocks hL (Nat.zero_le _) (Nat.zero_le _) dX5_step_273 (⟨hT, hF, fun v h9 => ⟨_, hP 1 _ rfl, by rw [FI.eq h9 hat1410 rfl (by decide) rfl]; rfl⟩⟩)
            · refine lv_aload_n hx hb dX5_step_196 rfl (lv_at hl 1 rfl) ?_
              refine lv_iconst (v := 2) hx hb dX5_step_197 (by decide) ?_
              refine b_put (D := D) (ci := 5) (v := .int 2) (ty := .int) (C := RX5) (T := TX5) (N := 14) hx hb hts iX5_step_5 tyX5 tyX5_ok nmX5 hown hN hB 1 rfl rfl 4 (by decide) (hts _ mX5_step_6) (fun _ h9 => h9) rfl (by decide +kernel) rfl rfl (Nat.le_of_ble_eq_true rfl) (.inr ⟨rfl, List.mem_of_getElem? (i := 0) rfl⟩) dX5_step_198 (fun H locs hB => ?_)
              have hB : Bx B0 D _ [(f1410_0, .inl (cs 1, 600, .inl g1411)), (w, .inr (5, [.ref f1410_0, .int (nI ((κ w).2.2.1)), .int (nI f1410_2), .int (nI k1), .int 2, .int (nI k1), .int 0, .int f1410_7, .int f1410_8, .ref f1410_9, .int (nI f1410_10), f1410_11, .int f1410_12, .int f1410_13]))] [w] _ _ := hB
              have hB : Bx B0 D _ [(f1410_0, .inl (cs 1, 600, .inl g1411)), (w, .inr (5, [.ref f1410_0, .int (nI ((κ w).2.2.1)), .int (nI f1410_2), .int (nI k1), .int 2, .int (nI k1), .int 0, .int f1410_7, .int f1410_8, .ref f1410_9, .int (nI f1410_10), f1410_11, .int f1410_12, .int f1410_13]))] [w] _ _ := hB.ms (by simp) (fa_c hb1410 fa_n)
              refine lp_m (α := Nat) (nL := 3) (fun a9 => 600 - a9) (fun a9 H9 l9 => (a9 ≤ 600) ∧ (Bx B0 D H0 [(f1410_0, .inl (cs 1, 600, .inl g1411)), (w, .inr (5, [.ref f1410_0, .int (nI ((κ w).2.2.1)), .int (nI f1410_2), .int (nI a9), .int 2, .int (nI k1), .int 0, .int f1410_7, .int f1410_8, .ref f1410_9, .int (nI f1410_10), f1410_11, .int f1410_12, .int f1410_13]))] [w] H9 l9)) (fun a9 => [(0, .ref w)]) ?_ k1 _ _ _ ⟨(by show (k1) ≤ 600; omega), hB⟩ (lv_sub hl [1] rfl)
              rintro k3 H locs ls ih1452 ⟨hk3, hB⟩ hl
              have hl : lv_has ls 3 [(0, .ref w)] := hl
              have hk3 : k3 ≤ 600 := hk3
              have hB : Bx B0 D _ [(f1410_0, .inl (cs 1, 600, .inl g1411)), (w, .inr (5, [.ref f1410_0, .int (nI ((κ w).2.2.1)), .int (nI f1410_2), .int (nI k3), .int 2, .int (nI k1), .int 0, .int f1410_7, .int f1410_8, .ref f1410_9, .int (nI f1410_10), f1410_11, .int f1410_12, .int f1410_13]))] [w] _ _ := hB
              refine lv_aload_n hx hb dX5_step_201 rfl (lv_at hl 0 rfl) ?_
              refine va_get (D := D) (ci := 5) (v := .int (nI k3)) (C := RX5) (T := TX5) (N := 14) hx hb hts iX5_step_5 hown hN.1 hB.1 1 rfl rfl 3 (by decide) (hts _ mX5_step_1) (fun _ h9 => h9) rfl dX5_step_202 ?_
              refine lv_aload_n hx hb dX5_step_205 rfl (lv_at hl 0 rfl) ?_
              refine va_get (D := D) (ci := 5) (v := .int (nI f1410_2)) (C := RX5) (T := TX5) (N := 14) hx hb hts iX5_step_5 hown hN.1 hB.1 1 rfl rfl 2 (by decide) (hts _ mX5_step_2) (fun _ h9 => h9) rfl dX5_step_206 ?_
              refine lv_icmp_ge (tgt := 273) hx hb dX5_step_209 (by decide) (fun c1453 => ?_) (fun c1453 => ?_)
              · have c1453 : f1410_2 ≤ k3 := (nI_leI (a := f1410_2) (b := k3) (by omega) (by omega)).mp c1453
                have hT : WT B0 D cs T κ _ := hT.close hB ⟨⟨1, _, rfl, ok_6 hw.1 ⟨_, _, _, _, _, _, _, _, _, _, _, _, _, rfl, (by omega), (by omega), (by omega), (by omega), (by omega), t1410_0, t1410_9, c1410_11, c1410_p2⟩⟩, trivial⟩
                have hF : Fr B0 [10] κ H0 _ := hF.close hB (fa_c (by simp [hw.2]) fa_n)
                have hL : OkL B0 _ := hB.2.2.2.2.2
                have hP : va_P D vwCl [(f1410_0, .inl (cs 1, 600, .inl g1411)), (w, .inr (5, [.ref f1410_0, .int (nI ((κ w).2.2.1)), .int (nI f1410_2), .int (nI k3), .int 2, .int (nI k1), .int 0, .int f1410_7, .int f1410_8, .ref f1410_9, .int (nI f1410_10), f1410_11, .int f1410_12, .int f1410_13]))] _ := hB.1
                exact en_v hx hb hr hlocks hL (Nat.zero_le _) (Nat.zero_le _) dX5_step_273 (⟨hT, hF, fun v h9 => ⟨_, hP 1 _ rfl, by rw [FI.eq h9 hat1410 rfl (by decide) rfl]; rfl⟩⟩)
              · have c1453 : ¬ f1410_2 ≤ k3 := fun h9 => c1453 ((nI_leI (a := f1410_2) (b := k3) (by omega) (by omega)).mpr h9)
                refine lv_aload_n hx hb dX5_step_212 rfl (lv_at hl 0 rfl) ?_
                refine va_get (D := D) (ci := 5) (v := .ref f1410_0) (C := RX5) (T := TX5) (N := 14) hx hb hts iX5_step_5 hown hN.1 hB.1 1 rfl rfl 0 (by decide) (hts _ mX5_step_3) (fun _ h9 => h9) rfl dX5_step_213 ?_
                refine lv_aload_n hx hb dX5_step_216 rfl (lv_at hl 0 rfl) ?_
                refine va_get (D := D) (ci := 5) (v := .int (nI k3)) (C := RX5) (T := TX5) (N := 14) hx hb hts iX5_step_5 hown hN.1 hB.1 1 rfl rfl 3 (by decide) (hts _ mX5_step_1) (fun _ h9 => h9) rfl dX5_step_217 ?_
                refine ld_b (v := (g1411 k3)) hx hb hN hB.1 0 rfl (vp_in_nI (n := k3) (N := 600) (by omega) (by omega)) (by rw [(show ((nI k3) : Int32).toNatClampNeg = k3 from nI_clamp (n := k3) (by omega))]) dX5_step_220 ?_
                refine gn_i (fun x1454 => ?_)
                refine lv_bipush (v := 97) hx hb dX5_step_221 (by decide) ?_
                refine lv_icmp_lt (tgt := 273) hx hb dX5_step_223 (by decide) (fun c1455 => ?_) (fun c1455 => ?_)
                · have hT : WT B0 D cs T κ _ := hT.close hB ⟨⟨1, _, rfl, ok_6 hw.1 ⟨_, _, _, _, _, _, _, _, _, _, _, _, _, rfl, (by omega), (by omega), (by omega), (by omega), (by omega), t1410_0, t1410_9, c1410_11, c1410_p2⟩⟩, trivial⟩
                  have hF : Fr B0 [10] κ H0 _ := hF.close hB (fa_c (by simp [hw.2]) fa_n)
                  have hL : OkL B0 _ := hB.2.2.2.2.2
                  have hP : va_P D vwCl [(f1410_0, .inl (cs 1, 600, .inl g1411)), (w, .inr (5, [.ref f1410_0, .int (nI ((κ w).2.2.1)), .int (nI f1410_2), .int (nI k3), .int 2, .int (nI k1), .int 0, .int f1410_7, .int f1410_8, .ref f1410_9, .int (nI f1410_10), f1410_11, .int f1410_12, .int f1410_13]))] _ := hB.1
                  exact en_v hx hb hr hlocks hL (Nat.zero_le _) (Nat.zero_le _) dX5_step_273 (⟨hT, hF, fun v h9 => ⟨_, hP 1 _ rfl, by rw [FI.eq h9 hat1410 rfl (by decide) rfl]; rfl⟩⟩)
                · refine lv_aload_n hx hb dX5_step_226 rfl (lv_at hl 0 rfl) ?_
                  refine va_get (D := D) (ci := 5) (v := .ref f1410_0) (C := RX5) (T := TX5) (N := 14) hx hb hts iX5_step_5 hown hN.1 hB.1 1 rfl rfl 0 (by decide) (hts _ mX5_step_3) (fun _ h9 => h9) rfl dX5_step_227 ?_
                  refine lv_aload_n hx hb dX5_step_230 rfl (lv_at hl 0 rfl) ?_
                  refine va_get (D := D) (ci := 5) (v := .int (nI k3)) (C := RX5) (T := TX5) (N := 14) hx hb hts iX5_step_5 hown hN.1 hB.1 1 rfl rfl 3 (by decide) (hts _ mX5_step_1) (fun _ h9 => h9) rfl dX5_step_231 ?_
                  refine ld_b (v := (g1411 k3)) hx hb hN hB.1 0 rfl (vp_in_nI (n := k3) (N := 600) (by omega) (by omega)) (by rw [(show ((nI k3) : Int32).toNatClampNeg = k3 from nI_clamp (n := k3) (by omega))]) dX5_step_234 ?_
                  refine gn_i (fun x1456 => ?_)
                  refine lv_bipush (v := 122) hx hb dX5_step_235 (by decide) ?_
                  refine lv_icmp_gt (tgt := 273) hx hb dX5_step_237 (by decide) (fun c1457 => ?_) (fun c1457 => ?_)
                  · have hT : WT B0 D cs T κ _ := hT.close hB ⟨⟨1, _, rfl, ok_6 hw.1 ⟨_, _, _, _, _, _, _, _, _, _, _, _, _, rfl, (by omega), (by omega), (by omega), (by omega), (by omega), t1410_0, t1410_9, c1410_11, c1410_p2⟩⟩, trivial⟩
                    have hF : Fr B0 [10] κ H0 _ := hF.close hB (fa_c (by simp [hw.2]) fa_n)
                    have hL : OkL B0 _ := hB.2.2.2.2.2
                    have hP : va_P D vwCl [(f1410_0, .inl (cs 1, 600, .inl g1411)), (w, .inr (5, [.ref f1410_0, .int (nI ((κ w).2.2.1)), .int (nI f1410_2), .int (nI k3), .int 2, .int (nI k1), .int 0, .int f1410_7, .int f1410_8, .ref f1410_9, .int (nI f1410_10), f1410_11, .int f1410_12, .int f1410_13]))] _ := hB.1
                    exact en_v hx hb hr hlocks hL (Nat.zero_le _) (Nat.zero_le _) dX5_step_273 (⟨hT, hF, fun v h9 => ⟨_, hP 1 _ rfl, by rw [FI.eq h9 hat1410 rfl (by decide) rfl]; rfl⟩⟩)
                  · refine lv_aload_n hx hb dX5_step_240 rfl (lv_at hl 0 rfl) ?_
                    refine lv_dup hx hb dX5_step_241 rfl ?_
                    refine va_get (D := D) (ci := 5) (v := .int (nI k3)) (C := RX5) (T := TX5) (N := 14) hx hb hts iX5_step_5 hown hN.1 hB.1 1 rfl rfl 3 (by decide) (hts _ mX5_step_1) (fun _ h9 => h9) rfl dX5_step_242 ?_
                    refine lv_iconst (v := 1) hx hb dX5_step_245 (by decide) ?_
                    refine lv_iadd hx hb dX5_step_246 ?_
                    refine tp_i (nI (k3 + 1)) (nI_add k3 1) ?_
                    refine b_put (D := D) (ci := 5) (v := .int (nI (k3 + 1))) (ty := .int) (C := RX5) (T := TX5) (N := 14) hx hb hts iX5_step_5 tyX5 tyX5_ok nmX5 hown hN hB 1 rfl rfl 3 (by decide) (hts _ mX5_step_1) (fun _ h9 => h9) rfl (by decide +kernel) rfl rfl (Nat.le_of_ble_eq_true rfl) (.inr ⟨rfl, List.mem_of_getElem? (i := 0) rfl⟩) dX5_step_247 (fun H locs hB => ?_)
                    have hB : Bx B0 D _ [(f1410_0, .inl (cs 1, 600, .inl g1411)), (w, .inr (5, [.ref f1410_0, .int (nI ((κ w).2.2.1)), .int (nI f1410_2), .int (nI (k3 + 1)), .int 2, .int (nI k1), .int 0, .int f1410_7, .int f1410_8, .ref f1410_9, .int (nI f1410_10), f1410_11, .int f1410_12, .int f1410_13]))] [w] _ _ := hB
                    refine lv_goto (tgt := 201) hx hb dX5_step_250 (by decide) ?_
                    exact ih1452 (k3 + 1) _ _ _ (by show 600 - ((k3 + 1)) < 600 - k3; omega) ⟨(by show ((k3 + 1)) ≤ 600; omega), hB⟩ (lv_sub hl [0] rfl)
        · refine lv_iload_n hx hb dX5_step_84 rfl (lv_at hl 0 rfl) ?_
          refine lv_bipush (v := 57) hx hb dX5_step_85 (by decide) ?_
          refine lv_icmp_gt (tgt := 184) hx hb dX5_step_87 (by decide) (fun c1458 => ?_) (fun c1458 => ?_)
          · refine lv_iload_n hx hb dX5_step_184 rfl (lv_at hl 0 rfl) ?_
            refine lv_bipush (v := 97) hx hb dX5_step_185 (by decide) ?_
            refine lv_icmp_lt (tgt := 253) hx hb dX5_step_187 (by decide) (fun c1459 => ?_) (fun c1459 => ?_)
            · refine lv_aload_n hx hb dX5_step_253 rfl (lv_at hl 1 rfl) ?_
              refine lv_iconst (v := 3) hx hb dX5_step_254 (by decide) ?_
              refine b_put (D := D) (ci := 5) (v := .int 3) (ty := .int) (C := RX5) (T := TX5) (N := 14) hx hb hts iX5_step_5 tyX5 tyX5_ok nmX5 hown hN hB 1 rfl rfl 4 (by decide) (hts _ mX5_step_6) (fun _ h9 => h9) rfl (by decide +kernel) rfl rfl (Nat.le_of_ble_eq_true rfl) (.inr ⟨rfl, List.mem_of_getElem? (i := 0) rfl⟩) dX5_step_255 (fun H locs hB => ?_)
              have hB : Bx B0 D _ [(f1410_0, .inl (cs 1, 600, .inl g1411)), (w, .inr (5, [.ref f1410_0, .int (nI ((κ w).2.2.1)), .int (nI f1410_2), .int (nI k1), .int 3, .int (nI k1), .int 0, .int f1410_7, .int f1410_8, .ref f1410_9, .int (nI f1410_10), f1410_11, .int f1410_12, .int f1410_13]))] [w] _ _ := hB
              refine lv_aload_n hx hb dX5_step_258 rfl (lv_at hl 1 rfl) ?_
              refine lv_iload_n hx hb dX5_step_259 rfl (lv_at hl 0 rfl) ?_
              refine b_put (D := D) (ci := 5) (v := .int x1448) (ty := .int) (C := RX5) (T := TX5) (N := 14) hx hb hts iX5_step_5 tyX5 tyX5_ok nmX5 hown hN hB 1 rfl rfl 6 (by decide) (hts _ mX5_step_5) (fun _ h9 => h9) rfl (by decide +kernel) rfl rfl (Nat.le_of_ble_eq_true rfl) (.inr ⟨rfl, List.mem_of_getElem? (i := 0) rfl⟩) dX5_step_260 (fun H locs hB => ?_)
              have hB : Bx B0 D _ [(f1410_0, .inl (cs 1, 600, .inl g1411)), (w, .inr (5, [.ref f1410_0, .int (nI ((κ w).2.2.1)), .int (nI f1410_2), .int (nI k1), .int 3, .int (nI k1), .int x1448, .int f1410_7, .int f1410_8, .ref f1410_9, .int (nI f1410_10), f1410_11, .int f1410_12, .int f1410_13]))] [w] _ _ := hB
              refine lv_aload_n hx hb dX5_step_263 rfl (lv_at hl 1 rfl) ?_
              refine lv_dup hx hb dX5_step_264 rfl ?_
              refine va_get (D := D) (ci := 5) (v := .int (nI k1)) (C := RX5) (T := TX5) (N := 14) hx hb hts iX5_step_5 hown hN.1 hB.1 1 rfl rfl 3 (by decide) (hts _ mX5_step_1) (fun _ h9 => h9) rfl dX5_step_265 ?_
              refine lv_iconst (v := 1) hx hb dX5_step_268 (by decide) ?_
              refine lv_iadd hx hb dX5_step_269 ?_
              refine tp_i (nI (k1 + 1)) (nI_add k1 1) ?_
              refine b_put (D := D) (ci := 5) (v := .int (nI (k1 + 1))) (ty := .int) (C := RX5) (T := TX5) (N := 14) hx hb hts iX5_step_5 tyX5 tyX5_ok nmX5 hown hN hB 1 rfl rfl 3 (by decide) (hts _ mX5_step_1) (fun _ h9 => h9) rfl (by decide +kernel) rfl rfl (Nat.le_of_ble_eq_true rfl) (.inr ⟨rfl, List.mem_of_getElem? (i := 0) rfl⟩) dX5_step_270 (fun H locs hB => ?_)
              have hB : Bx B0 D _ [(f1410_0, .inl (cs 1, 600, .inl g1411)), (w, .inr (5, [.ref f1410_0, .int (nI ((κ w).2.2.1)), .int (nI f1410_2), .int (nI (k1 + 1)), .int 3, .int (nI k1), .int x1448, .int f1410_7, .int f1410_8, .ref f1410_9, .int (nI f1410_10), f1410_11, .int f1410_12, .int f1410_13]))] [w] _ _ := hB
              have hT : WT B0 D cs T κ _ := hT.close hB ⟨⟨1, _, rfl, ok_6 hw.1 ⟨_, _, _, _, _, _, _, _, _, _, _, _, _, rfl, (by omega), (by omega), (by omega), (by omega), (by omega), t1410_0, t1410_9, c1410_11, c1410_p2⟩⟩, trivial⟩
              have hF : Fr B0 [10] κ H0 _ := hF.close hB (fa_c (by simp [hw.2]) fa_n)
              have hL : OkL B0 _ := hB.2.2.2.2.2
              have hP : va_P D vwCl [(f1410_0, .inl (cs 1, 600, .inl g1411)), (w, .inr (5, [.ref f1410_0, .int (nI ((κ w).2.2.1)), .int (nI f1410_2), .int (nI (k1 + 1)), .int 3, .int (nI k1), .int x1448, .int f1410_7, .int f1410_8, .ref f1410_9, .int (nI f1410_10), f1410_11, .int f1410_12, .int f1410_13]))] _ := hB.1
              exact en_v hx hb hr hlocks hL (Nat.zero_le _) (Nat.zero_le _) dX5_step_273 (⟨hT, hF, fun v h9 => ⟨_, hP 1 _ rfl, by rw [FI.eq h9 hat1410 rfl (by decide) rfl]; rfl⟩⟩)
            · refine lv_iload_n hx hb dX5_step_190 rfl (lv_at hl 0 rfl) ?_
              refine lv_bipush (v := 122) hx hb dX5_step_191 (by decide) ?_
              refine lv_icmp_gt (tgt := 253) hx hb dX5_step_193 (by decide) (fun c1460 => ?_) (fun c1460 => ?_)
              · refine lv_aload_n hx hb dX5_step_253 rfl (lv_at hl 1 rfl) ?_
                refine lv_iconst (v := 3) hx hb dX5_step_254 (by decide) ?_
                refine b_put (D := D) (ci := 5) (v := .int 3) (ty := .int) (C := RX5) (T := TX5) (N := 14) hx hb hts iX5_step_5 tyX5 tyX5_ok nmX5 hown hN hB 1 rfl rfl 4 (by decide) (hts _ mX5_step_6) (fun _ h9 => h9) rfl (by decide +kernel) rfl rfl (Nat.le_of_ble_eq_true rfl) (.inr ⟨rfl, List.mem_of_getElem? (i := 0) rfl⟩) dX5_step_255 (fun H locs hB => ?_)
                have hB : Bx B0 D _ [(f1410_0, .inl (cs 1, 600, .inl g1411)), (w, .inr (5, [.ref f1410_0, .int (nI ((κ w).2.2.1)), .int (nI f1410_2), .int (nI k1), .int 3, .int (nI k1), .int 0, .int f1410_7, .int f1410_8, .ref f1410_9, .int (nI f1410_10), f1410_11, .int f1410_12, .int f1410_13]))] [w] _ _ := hB
                refine lv_aload_n hx hb dX5_step_258 rfl (lv_at hl 1 rfl) ?_
                refine lv_iload_n hx hb dX5_step_259 rfl (lv_at hl 0 rfl) ?_
                refine b_put (D := D) (ci := 5) (v := .int x1448) (ty := .int) (C := RX5) (T := TX5) (N := 14) hx hb hts iX5_step_5 tyX5 tyX5_ok nmX5 hown hN hB 1 rfl rfl 6 (by decide) (hts _ mX5_step_5) (fun _ h9 => h9) rfl (by decide +kernel) rfl rfl (Nat.le_of_ble_eq_true rfl) (.inr ⟨rfl, List.mem_of_getElem? (i := 0) rfl⟩) dX5_step_260 (fun H locs hB => ?_)
                have hB : Bx B0 D _ [(f1410_0, .inl (cs 1, 600, .inl g1411)), (w, .inr (5, [.ref f1410_0, .int (nI ((κ w).2.2.1)), .int (nI f1410_2), .int (nI k1), .int 3, .int (nI k1), .int x1448, .int f1410_7, .int f1410_8, .ref f1410_9, .int (nI f1410_10), f1410_11, .int f1410_12, .int f1410_13]))] [w] _ _ := hB
                refine lv_aload_n hx hb dX5_step_263 rfl (lv_at hl 1 rfl) ?_
                refine lv_dup hx hb dX5_step_264 rfl ?_
                refine va_get (D := D) (ci := 5) (v := .int (nI k1)) (C := RX5) (T := TX5) (N := 14) hx hb hts iX5_step_5 hown hN.1 hB.1 1 rfl rfl 3 (by decide) (hts _ mX5_step_1) (fun _ h9 => h9) rfl dX5_step_265 ?_
                refine lv_iconst (v := 1) hx hb dX5_step_268 (by decide) ?_
                refine lv_iadd hx hb dX5_step_269 ?_
                refine tp_i (nI (k1 + 1)) (nI_add k1 1) ?_
                refine b_put (D := D) (ci := 5) (v := .int (nI (k1 + 1))) (ty := .int) (C := RX5) (T := TX5) (N := 14) hx hb hts iX5_step_5 tyX5 tyX5_ok nmX5 hown hN hB 1 rfl rfl 3 (by decide) (hts _ mX5_step_1) (fun _ h9 => h9) rfl (by decide +kernel) rfl rfl (Nat.le_of_ble_eq_true rfl) (.inr ⟨rfl, List.mem_of_getElem? (i := 0) rfl⟩) dX5_step_270 (fun H locs hB => ?_)
                have hB : Bx B0 D _ [(f1410_0, .inl (cs 1, 600, .inl g1411)), (w, .inr (5, [.ref f1410_0, .int (nI ((κ w).2.2.1)), .int (nI f1410_2), .int (nI (k1 + 1)), .int 3, .int (nI k1), .int x1448, .int f1410_7, .int f1410_8, .ref f1410_9, .int (nI f1410_10), f1410_11, .int f1410_12, .int f1410_13]))] [w] _ _ := hB
                have hT : WT B0 D cs T κ _ := hT.close hB ⟨⟨1, _, rfl, ok_6 hw.1 ⟨_, _, _, _, _, _, _, _, _, _, _, _, _, rfl, (by omega), (by omega), (by omega), (by omega), (by omega), t1410_0, t1410_9, c1410_11, c1410_p2⟩⟩, trivial⟩
                have hF : Fr B0 [10] κ H0 _ := hF.close hB (fa_c (by simp [hw.2]) fa_n)
                have hL : OkL B0 _ := hB.2.2.2.2.2
                have hP : va_P D vwCl [(f1410_0, .inl (cs 1, 600, .inl g1411)), (w, .inr (5, [.ref f1410_0, .int (nI ((κ w).2.2.1)), .int (nI f1410_2), .int (nI (k1 + 1)), .int 3, .int (nI k1), .int x1448, .int f1410_7, .int f1410_8, .ref f1410_9, .int (nI f1410_10), f1410_11, .int f1410_12, .int f1410_13]))] _ := hB.1
                exact en_v hx hb hr hlocks hL (Nat.zero_le _) (Nat.zero_le _) dX5_step_273 (⟨hT, hF, fun v h9 => ⟨_, hP 1 _ rfl, by rw [FI.eq h9 hat1410 rfl (by decide) rfl]; rfl⟩⟩)
              · refine lv_aload_n hx hb dX5_step_196 rfl (lv_at hl 1 rfl) ?_
                refine lv_iconst (v := 2) hx hb dX5_step_197 (by decide) ?_
                refine b_put (D := D) (ci := 5) (v := .int 2) (ty := .int) (C := RX5) (T := TX5) (N := 14) hx hb hts iX5_step_5 tyX5 tyX5_ok nmX5 hown hN hB 1 rfl rfl 4 (by decide) (hts _ mX5_step_6) (fun _ h9 => h9) rfl (by decide +kernel) rfl rfl (Nat.le_of_ble_eq_true rfl) (.inr ⟨rfl, List.mem_of_getElem? (i := 0) rfl⟩) dX5_step_198 (fun H locs hB => ?_)
                have hB : Bx B0 D _ [(f1410_0, .inl (cs 1, 600, .inl g1411)), (w, .inr (5, [.ref f1410_0, .int (nI ((κ w).2.2.1)), .int (nI f1410_2), .int (nI k1), .int 2, .int (nI k1), .int 0, .int f1410_7, .int f1410_8, .ref f1410_9, .int (nI f1410_10), f1410_11, .int f1410_12, .int f1410_13]))] [w] _ _ := hB
                have hB : Bx B0 D _ [(f1410_0, .inl (cs 1, 600, .inl g1411)), (w, .inr (5, [.ref f1410_0, .int (nI ((κ w).2.2.1)), .int (nI f1410_2), .int (nI k1), .int 2, .int (nI k1), .int 0, .int f1410_7, .int f1410_8, .ref f1410_9, .int (nI f1410_10), f1410_11, .int f1410_12, .int f1410_13]))] [w] _ _ := hB.ms (by simp) (fa_c hb1410 fa_n)
                refine lp_m (α := Nat) (nL := 3) (fun a9 => 600 - a9) (fun a9 H9 l9 => (a9 ≤ 600) ∧ (Bx B0 D H0 [(f1410_0, .inl (cs 1, 600, .inl g1411)), (w, .inr (5, [.ref f1410_0, .int (nI ((κ w).2.2.1)), .int (nI f1410_2), .int (nI a9), .int 2, .int (nI k1), .int 0, .int f1410_7, .int f1410_8, .ref f1410_9, .int (nI f1410_10), f1410_11, .int f1410_12, .int f1410_13]))] [w] H9 l9)) (fun a9 => [(0, .ref w)]) ?_ k1 _ _ _ ⟨(by show (k1) ≤ 600; omega), hB⟩ (lv_sub hl [1] rfl)
                rintro k3 H locs ls ih1461 ⟨hk3, hB⟩ hl
                have hl : lv_has ls 3 [(0, .ref w)] := hl
                have hk3 : k3 ≤ 600 := hk3
                have hB : Bx B0 D _ [(f1410_0, .inl (cs 1, 600, .inl g1411)), (w, .inr (5, [.ref f1410_0, .int (nI ((κ w).2.2.1)), .int (nI f1410_2), .int (nI k3), .int 2, .int (nI k1), .int 0, .int f1410_7, .int f1410_8, .ref f1410_9, .int (nI f1410_10), f1410_11, .int f1410_12, .int f1410_13]))] [w] _ _ := hB
                refine lv_aload_n hx hb dX5_step_201 rfl (lv_at hl 0 rfl) ?_
                refine va_get (D := D) (ci := 5) (v := .int (nI k3)) (C := RX5) (T := TX5) (N := 14) hx hb hts iX5_step_5 hown hN.1 hB.1 1 rfl rfl 3 (by decide) (hts _ mX5_step_1) (fun _ h9 => h9) rfl dX5_step_202 ?_
                refine lv_aload_n hx hb dX5_step_205 rfl (lv_at hl 0 rfl) ?_
                refine va_get (D := D) (ci := 5) (v := .int (nI f1410_2)) (C := RX5) (T := TX5) (N := 14) hx hb hts iX5_step_5 hown hN.1 hB.1 1 rfl rfl 2 (by decide) (hts _ mX5_step_2) (fun _ h9 => h9) rfl dX5_step_206 ?_
                refine lv_icmp_ge (tgt := 273) hx hb dX5_step_209 (by decide) (fun c1462 => ?_) (fun c1462 => ?_)
                · have c1462 : f1410_2 ≤ k3 := (nI_leI (a := f1410_2) (b := k3) (by omega) (by omega)).mp c1462
                  have hT : WT B0 D cs T κ _ := hT.close hB ⟨⟨1, _, rfl, ok_6 hw.1 ⟨_, _, _, _, _, _, _, _, _, _, _, _, _, rfl, (by omega), (by omega), (by omega), (by omega), (by omega), t1410_0, t1410_9, c1410_11, c1410_p2⟩⟩, trivial⟩
                  have hF : Fr B0 [10] κ H0 _ := hF.close hB (fa_c (by simp [hw.2]) fa_n)
                  have hL : OkL B0 _ := hB.2.2.2.2.2
                  have hP : va_P D vwCl [(f1410_0, .inl (cs 1, 600, .inl g1411)), (w, .inr (5, [.ref f1410_0, .int (nI ((κ w).2.2.1)), .int (nI f1410_2), .int (nI k3), .int 2, .int (nI k1), .int 0, .int f1410_7, .int f1410_8, .ref f1410_9, .int (nI f1410_10), f1410_11, .int f1410_12, .int f1410_13]))] _ := hB.1
                  exact en_v hx hb hr hlocks hL (Nat.zero_le _) (Nat.zero_le _) dX5_step_273 (⟨hT, hF, fun v h9 => ⟨_, hP 1 _ rfl, by rw [FI.eq h9 hat1410 rfl (by decide) rfl]; rfl⟩⟩)
                · have c1462 : ¬ f1410_2 ≤ k3 := fun h9 => c1462 ((nI_leI (a := f1410_2) (b := k3) (by omega) (by omega)).mpr h9)
                  refine lv_aload_n hx hb dX5_step_212 rfl (lv_at hl 0 rfl) ?_
                  refine va_get (D := D) (ci := 5) (v := .ref f1410_0) (C := RX5) (T := TX5) (N := 14) hx hb hts iX5_step_5 hown hN.1 hB.1 1 rfl rfl 0 (by decide) (hts _ mX5_step_3) (fun _ h9 => h9) rfl dX5_step_213 ?_
                  refine lv_aload_n hx hb dX5_step_216 rfl (lv_at hl 0 rfl) ?_
                  refine va_get (D := D) (ci := 5) (v := .int (nI k3)) (C := RX5) (T := TX5) (N := 14) hx hb hts iX5_step_5 hown hN.1 hB.1 1 rfl rfl 3 (by decide) (hts _ mX5_step_1) (fun _ h9 => h9) rfl dX5_step_217 ?_
                  refine ld_b (v := (g1411 k3)) hx hb hN hB.1 0 rfl (vp_in_nI (n := k3) (N := 600) (by omega) (by omega)) (by rw [(show ((nI k3) : Int32).toNatClampNeg = k3 from nI_clamp (n := k3) (by omega))]) dX5_step_220 ?_
                  refine gn_i (fun x1463 => ?_)
                  refine lv_bipush (v := 97) hx hb dX5_step_221 (by decide) ?_
                  refine lv_icmp_lt (tgt := 273) hx hb dX5_step_223 (by decide) (fun c1464 => ?_) (fun c1464 => ?_)
                  · have hT : WT B0 D cs T κ _ := hT.close hB ⟨⟨1, _, rfl, ok_6 hw.1 ⟨_, _, _, _, _, _, _, _, _, _, _, _, _, rfl, (by omega), (by omega), (by omega), (by omega), (by omega), t1410_0, t1410_9, c1410_11, c1410_p2⟩⟩, trivial⟩
                    have hF : Fr B0 [10] κ H0 _ := hF.close hB (fa_c (by simp [hw.2]) fa_n)
                    have hL : OkL B0 _ := hB.2.2.2.2.2
                    have hP : va_P D vwCl [(f1410_0, .inl (cs 1, 600, .inl g1411)), (w, .inr (5, [.ref f1410_0, .int (nI ((κ w).2.2.1)), .int (nI f1410_2), .int (nI k3), .int 2, .int (nI k1), .int 0, .int f1410_7, .int f1410_8, .ref f1410_9, .int (nI f1410_10), f1410_11, .int f1410_12, .int f1410_13]))] _ := hB.1
                    exact en_v hx hb hr hlocks hL (Nat.zero_le _) (Nat.zero_le _) dX5_step_273 (⟨hT, hF, fun v h9 => ⟨_, hP 1 _ rfl, by rw [FI.eq h9 hat1410 rfl (by decide) rfl]; rfl⟩⟩)
                  · refine lv_aload_n hx hb dX5_step_226 rfl (lv_at hl 0 rfl) ?_
                    refine va_get (D := D) (ci := 5) (v := .ref f1410_0) (C := RX5) (T := TX5) (N := 14) hx hb hts iX5_step_5 hown hN.1 hB.1 1 rfl rfl 0 (by decide) (hts _ mX5_step_3) (fun _ h9 => h9) rfl dX5_step_227 ?_
                    refine lv_aload_n hx hb dX5_step_230 rfl (lv_at hl 0 rfl) ?_
                    refine va_get (D := D) (ci := 5) (v := .int (nI k3)) (C := RX5) (T := TX5) (N := 14) hx hb hts iX5_step_5 hown hN.1 hB.1 1 rfl rfl 3 (by decide) (hts _ mX5_step_1) (fun _ h9 => h9) rfl dX5_step_231 ?_
                    refine ld_b (v := (g1411 k3)) hx hb hN hB.1 0 rfl (vp_in_nI (n := k3) (N := 600) (by omega) (by omega)) (by rw [(show ((nI k3) : Int32).toNatClampNeg = k3 from nI_clamp (n := k3) (by omega))]) dX5_step_234 ?_
                    refine gn_i (fun x1465 => ?_)
                    refine lv_bipush (v := 122) hx hb dX5_step_235 (by decide) ?_
                    refine lv_icmp_gt (tgt := 273) hx hb dX5_step_237 (by decide) (fun c1466 => ?_) (fun c1466 => ?_)
                    · have hT : WT B0 D cs T κ _ := hT.close hB ⟨⟨1, _, rfl, ok_6 hw.1 ⟨_, _, _, _, _, _, _, _, _, _, _, _, _, rfl, (by omega), (by omega), (by omega), (by omega), (by omega), t1410_0, t1410_9, c1410_11, c1410_p2⟩⟩, trivial⟩
                      have hF : Fr B0 [10] κ H0 _ := hF.close hB (fa_c (by simp [hw.2]) fa_n)
                      have hL : OkL B0 _ := hB.2.2.2.2.2
                      have hP : va_P D vwCl [(f1410_0, .inl (cs 1, 600, .inl g1411)), (w, .inr (5, [.ref f1410_0, .int (nI ((κ w).2.2.1)), .int (nI f1410_2), .int (nI k3), .int 2, .int (nI k1), .int 0, .int f1410_7, .int f1410_8, .ref f1410_9, .int (nI f1410_10), f1410_11, .int f1410_12, .int f1410_13]))] _ := hB.1
                      exact en_v hx hb hr hlocks hL (Nat.zero_le _) (Nat.zero_le _) dX5_step_273 (⟨hT, hF, fun v h9 => ⟨_, hP 1 _ rfl, by rw [FI.eq h9 hat1410 rfl (by decide) rfl]; rfl⟩⟩)
                    · refine lv_aload_n hx hb dX5_step_240 rfl (lv_at hl 0 rfl) ?_
                      refine lv_dup hx hb dX5_step_241 rfl ?_
                      refine va_get (D := D) (ci := 5) (v := .int (nI k3)) (C := RX5) (T := TX5) (N := 14) hx hb hts iX5_step_5 hown hN.1 hB.1 1 rfl rfl 3 (by decide) (hts _ mX5_step_1) (fun _ h9 => h9) rfl dX5_step_242 ?_
                      refine lv_iconst (v := 1) hx hb dX5_step_245 (by decide) ?_
                      refine lv_iadd hx hb dX5_step_246 ?_
                      refine tp_i (nI (k3 + 1)) (nI_add k3 1) ?_
                      refine b_put (D := D) (ci := 5) (v := .int (nI (k3 + 1))) (ty := .int) (C := RX5) (T := TX5) (N := 14) hx hb hts iX5_step_5 tyX5 tyX5_ok nmX5 hown hN hB 1 rfl rfl 3 (by decide) (hts _ mX5_step_1) (fun _ h9 => h9) rfl (by decide +kernel) rfl rfl (Nat.le_of_ble_eq_true rfl) (.inr ⟨rfl, List.mem_of_getElem? (i := 0) rfl⟩) dX5_step_247 (fun H locs hB => ?_)
                      have hB : Bx B0 D _ [(f1410_0, .inl (cs 1, 600, .inl g1411)), (w, .inr (5, [.ref f1410_0, .int (nI ((κ w).2.2.1)), .int (nI f1410_2), .int (nI (k3 + 1)), .int 2, .int (nI k1), .int 0, .int f1410_7, .int f1410_8, .ref f1410_9, .int (nI f1410_10), f1410_11, .int f1410_12, .int f1410_13]))] [w] _ _ := hB
                      refine lv_goto (tgt := 201) hx hb dX5_step_250 (by decide) ?_
                      exact ih1461 (k3 + 1) _ _ _ (by show 600 - ((k3 + 1)) < 600 - k3; omega) ⟨(by show ((k3 + 1)) ≤ 600; omega), hB⟩ (lv_sub hl [0] rfl)
          · refine lv_aload_n hx hb dX5_step_90 rfl (lv_at hl 1 rfl) ?_
            refine lv_iconst (v := 1) hx hb dX5_step_91 (by decide) ?_
            refine b_put (D := D) (ci := 5) (v := .int 1) (ty := .int) (C := RX5) (T := TX5) (N := 14) hx hb hts iX5_step_5 tyX5 tyX5_ok nmX5 hown hN hB 1 rfl rfl 4 (by decide) (hts _ mX5_step_6) (fun _ h9 => h9) rfl (by decide +kernel) rfl rfl (Nat.le_of_ble_eq_true rfl) (.inr ⟨rfl, List.mem_of_getElem? (i := 0) rfl⟩) dX5_step_92 (fun H locs hB => ?_)
            have hB : Bx B0 D _ [(f1410_0, .inl (cs 1, 600, .inl g1411)), (w, .inr (5, [.ref f1410_0, .int (nI ((κ w).2.2.1)), .int (nI f1410_2), .int (nI k1), .int 1, .int (nI k1), .int 0, .int f1410_7, .int f1410_8, .ref f1410_9, .int (nI f1410_10), f1410_11, .int f1410_12, .int f1410_13]))] [w] _ _ := hB
            have hB : Bx B0 D _ [(f1410_0, .inl (cs 1, 600, .inl g1411)), (w, .inr (5, [.ref f1410_0, .int (nI ((κ w).2.2.1)), .int (nI f1410_2), .int (nI k1), .int 1, .int (nI k1), .int 0, .int f1410_7, .int f1410_8, .ref f1410_9, .int (nI f1410_10), f1410_11, .int f1410_12, .int f1410_13]))] [w] _ _ := hB.ms (by simp) (fa_c hb1410 fa_n)
            refine lp_m (α := Nat × Int32) (nL := 3) (fun a9 => 600 - a9.1) (fun a9 H9 l9 => (a9.1 ≤ 600) ∧ (Bx B0 D H0 [(f1410_0, .inl (cs 1, 600, .inl g1411)), (w, .inr (5, [.ref f1410_0, .int (nI ((κ w).2.2.1)), .int (nI f1410_2), .int (nI a9.1), .int 1, .int (nI k1), .int a9.2, .int f1410_7, .int f1410_8, .ref f1410_9, .int (nI f1410_10), f1410_11, .int f1410_12, .int f1410_13]))] [w] H9 l9)) (fun a9 => [(0, .ref w)]) ?_ (k1, 0) _ _ _ ⟨(by show (k1) ≤ 600; omega), hB⟩ (lv_sub hl [1] rfl)
            rintro ⟨k2, v2⟩ H locs ls ih1467 ⟨hk2, hB⟩ hl
            have hl : lv_has ls 3 [(0, .ref w)] := hl
            have hk2 : k2 ≤ 600 := hk2
            have hB : Bx B0 D _ [(f1410_0, .inl (cs 1, 600, .inl g1411)), (w, .inr (5, [.ref f1410_0, .int (nI ((κ w).2.2.1)), .int (nI f1410_2), .int (nI k2), .int 1, .int (nI k1), .int v2, .int f1410_7, .int f1410_8, .ref f1410_9, .int (nI f1410_10), f1410_11, .int f1410_12, .int f1410_13]))] [w] _ _ := hB
            refine lv_aload_n hx hb dX5_step_95 rfl (lv_at hl 0 rfl) ?_
            refine va_get (D := D) (ci := 5) (v := .int (nI k2)) (C := RX5) (T := TX5) (N := 14) hx hb hts iX5_step_5 hown hN.1 hB.1 1 rfl rfl 3 (by decide) (hts _ mX5_step_1) (fun _ h9 => h9) rfl dX5_step_96 ?_
            refine lv_aload_n hx hb dX5_step_99 rfl (lv_at hl 0 rfl) ?_
            refine va_get (D := D) (ci := 5) (v := .int (nI f1410_2)) (C := RX5) (T := TX5) (N := 14) hx hb hts iX5_step_5 hown hN.1 hB.1 1 rfl rfl 2 (by decide) (hts _ mX5_step_2) (fun _ h9 => h9) rfl dX5_step_100 ?_
            refine lv_icmp_ge (tgt := 273) hx hb dX5_step_103 (by decide) (fun c1468 => ?_) (fun c1468 => ?_)
            · have c1468 : f1410_2 ≤ k2 := (nI_leI (a := f1410_2) (b := k2) (by omega) (by omega)).mp c1468
              have hT : WT B0 D cs T κ _ := hT.close hB ⟨⟨1, _, rfl, ok_6 hw.1 ⟨_, _, _, _, _, _, _, _, _, _, _, _, _, rfl, (by omega), (by omega), (by omega), (by omega), (by omega), t1410_0, t1410_9, c1410_11, c1410_p2⟩⟩, trivial⟩
              have hF : Fr B0 [10] κ H0 _ := hF.close hB (fa_c (by simp [hw.2]) fa_n)
              have hL : OkL B0 _ := hB.2.2.2.2.2
              have hP : va_P D vwCl [(f1410_0, .inl (cs 1, 600, .inl g1411)), (w, .inr (5, [.ref f1410_0, .int (nI ((κ w).2.2.1)), .int (nI f1410_2), .int (nI k2), .int 1, .int (nI k1), .int v2, .int f1410_7, .int f1410_8, .ref f1410_9, .int (nI f1410_10), f1410_11, .int f1410_12, .int f1410_13]))] _ := hB.1
              exact en_v hx hb hr hlocks hL (Nat.zero_le _) (Nat.zero_le _) dX5_step_273 (⟨hT, hF, fun v h9 => ⟨_, hP 1 _ rfl, by rw [FI.eq h9 hat1410 rfl (by decide) rfl]; rfl⟩⟩)
            · have c1468 : ¬ f1410_2 ≤ k2 := fun h9 => c1468 ((nI_leI (a := f1410_2) (b := k2) (by omega) (by omega)).mpr h9)
              refine lv_aload_n hx hb dX5_step_106 rfl (lv_at hl 0 rfl) ?_
              refine va_get (D := D) (ci := 5) (v := .ref f1410_0) (C := RX5) (T := TX5) (N := 14) hx hb hts iX5_step_5 hown hN.1 hB.1 1 rfl rfl 0 (by decide) (hts _ mX5_step_3) (fun _ h9 => h9) rfl dX5_step_107 ?_
              refine lv_aload_n hx hb dX5_step_110 rfl (lv_at hl 0 rfl) ?_
              refine va_get (D := D) (ci := 5) (v := .int (nI k2)) (C := RX5) (T := TX5) (N := 14) hx hb hts iX5_step_5 hown hN.1 hB.1 1 rfl rfl 3 (by decide) (hts _ mX5_step_1) (fun _ h9 => h9) rfl dX5_step_111 ?_
              refine ld_b (v := (g1411 k2)) hx hb hN hB.1 0 rfl (vp_in_nI (n := k2) (N := 600) (by omega) (by omega)) (by rw [(show ((nI k2) : Int32).toNatClampNeg = k2 from nI_clamp (n := k2) (by omega))]) dX5_step_114 ?_
              refine gn_i (fun x1469 => ?_)
              refine lv_bipush (v := 48) hx hb dX5_step_115 (by decide) ?_
              refine lv_icmp_lt (tgt := 273) hx hb dX5_step_117 (by decide) (fun c1470 => ?_) (fun c1470 => ?_)
              · have hT : WT B0 D cs T κ _ := hT.close hB ⟨⟨1, _, rfl, ok_6 hw.1 ⟨_, _, _, _, _, _, _, _, _, _, _, _, _, rfl, (by omega), (by omega), (by omega), (by omega), (by omega), t1410_0, t1410_9, c1410_11, c1410_p2⟩⟩, trivial⟩
                have hF : Fr B0 [10] κ H0 _ := hF.close hB (fa_c (by simp [hw.2]) fa_n)
                have hL : OkL B0 _ := hB.2.2.2.2.2
                have hP : va_P D vwCl [(f1410_0, .inl (cs 1, 600, .inl g1411)), (w, .inr (5, [.ref f1410_0, .int (nI ((κ w).2.2.1)), .int (nI f1410_2), .int (nI k2), .int 1, .int (nI k1), .int v2, .int f1410_7, .int f1410_8, .ref f1410_9, .int (nI f1410_10), f1410_11, .int f1410_12, .int f1410_13]))] _ := hB.1
                exact en_v hx hb hr hlocks hL (Nat.zero_le _) (Nat.zero_le _) dX5_step_273 (⟨hT, hF, fun v h9 => ⟨_, hP 1 _ rfl, by rw [FI.eq h9 hat1410 rfl (by decide) rfl]; rfl⟩⟩)
              · refine lv_aload_n hx hb dX5_step_120 rfl (lv_at hl 0 rfl) ?_
                refine va_get (D := D) (ci := 5) (v := .ref f1410_0) (C := RX5) (T := TX5) (N := 14) hx hb hts iX5_step_5 hown hN.1 hB.1 1 rfl rfl 0 (by decide) (hts _ mX5_step_3) (fun _ h9 => h9) rfl dX5_step_121 ?_
                refine lv_aload_n hx hb dX5_step_124 rfl (lv_at hl 0 rfl) ?_
                refine va_get (D := D) (ci := 5) (v := .int (nI k2)) (C := RX5) (T := TX5) (N := 14) hx hb hts iX5_step_5 hown hN.1 hB.1 1 rfl rfl 3 (by decide) (hts _ mX5_step_1) (fun _ h9 => h9) rfl dX5_step_125 ?_
                refine ld_b (v := (g1411 k2)) hx hb hN hB.1 0 rfl (vp_in_nI (n := k2) (N := 600) (by omega) (by omega)) (by rw [(show ((nI k2) : Int32).toNatClampNeg = k2 from nI_clamp (n := k2) (by omega))]) dX5_step_128 ?_
                refine gn_i (fun x1471 => ?_)
                refine lv_bipush (v := 57) hx hb dX5_step_129 (by decide) ?_
                refine lv_icmp_gt (tgt := 273) hx hb dX5_step_131 (by decide) (fun c1472 => ?_) (fun c1472 => ?_)
                · have hT : WT B0 D cs T κ _ := hT.close hB ⟨⟨1, _, rfl, ok_6 hw.1 ⟨_, _, _, _, _, _, _, _, _, _, _, _, _, rfl, (by omega), (by omega), (by omega), (by omega), (by omega), t1410_0, t1410_9, c1410_11, c1410_p2⟩⟩, trivial⟩
                  have hF : Fr B0 [10] κ H0 _ := hF.close hB (fa_c (by simp [hw.2]) fa_n)
                  have hL : OkL B0 _ := hB.2.2.2.2.2
                  have hP : va_P D vwCl [(f1410_0, .inl (cs 1, 600, .inl g1411)), (w, .inr (5, [.ref f1410_0, .int (nI ((κ w).2.2.1)), .int (nI f1410_2), .int (nI k2), .int 1, .int (nI k1), .int v2, .int f1410_7, .int f1410_8, .ref f1410_9, .int (nI f1410_10), f1410_11, .int f1410_12, .int f1410_13]))] _ := hB.1
                  exact en_v hx hb hr hlocks hL (Nat.zero_le _) (Nat.zero_le _) dX5_step_273 (⟨hT, hF, fun v h9 => ⟨_, hP 1 _ rfl, by rw [FI.eq h9 hat1410 rfl (by decide) rfl]; rfl⟩⟩)
                · refine lv_bipush (v := 10) hx hb dX5_step_134 (by decide) ?_
                  refine lv_aload_n hx hb dX5_step_136 rfl (lv_at hl 0 rfl) ?_
                  refine va_get (D := D) (ci := 5) (v := .int v2) (C := RX5) (T := TX5) (N := 14) hx hb hts iX5_step_5 hown hN.1 hB.1 1 rfl rfl 6 (by decide) (hts _ mX5_step_5) (fun _ h9 => h9) rfl dX5_step_137 ?_
                  refine lv_imul hx hb dX5_step_140 ?_
                  refine gn_i (fun x1473 => ?_)
                  refine lv_aload_n hx hb dX5_step_141 rfl (lv_at hl 0 rfl) ?_
                  refine va_get (D := D) (ci := 5) (v := .ref f1410_0) (C := RX5) (T := TX5) (N := 14) hx hb hts iX5_step_5 hown hN.1 hB.1 1 rfl rfl 0 (by decide) (hts _ mX5_step_3) (fun _ h9 => h9) rfl dX5_step_142 ?_
                  refine lv_aload_n hx hb dX5_step_145 rfl (lv_at hl 0 rfl) ?_
                  refine va_get (D := D) (ci := 5) (v := .int (nI k2)) (C := RX5) (T := TX5) (N := 14) hx hb hts iX5_step_5 hown hN.1 hB.1 1 rfl rfl 3 (by decide) (hts _ mX5_step_1) (fun _ h9 => h9) rfl dX5_step_146 ?_
                  refine ld_b (v := (g1411 k2)) hx hb hN hB.1 0 rfl (vp_in_nI (n := k2) (N := 600) (by omega) (by omega)) (by rw [(show ((nI k2) : Int32).toNatClampNeg = k2 from nI_clamp (n := k2) (by omega))]) dX5_step_149 ?_
                  refine gn_i (fun x1474 => ?_)
                  refine lv_iadd hx hb dX5_step_150 ?_
                  refine gn_i (fun x1475 => ?_)
                  refine lv_bipush (v := 48) hx hb dX5_step_151 (by decide) ?_
                  refine lv_isub hx hb dX5_step_153 ?_
                  refine gn_i (fun x1476 => ?_)
                  refine lv_istore_n (lv' := [(2, .int x1476), (0, .ref w)]) hx hb dX5_step_154 rfl hl (by decide) rfl (fun ls hl => ?_)
                  refine lv_aload_n hx hb dX5_step_155 rfl (lv_at hl 1 rfl) ?_
                  refine lv_iload_n hx hb dX5_step_156 rfl (lv_at hl 0 rfl) ?_
                  refine lv_ldc (v := 1000000) hx hb hown (hts _ mX5_step_7) dX5_step_157 ?_
                  refine lv_icmp_ge (tgt := 166) hx hb dX5_step_159 (by decide) (fun c1477 => ?_) (fun c1477 => ?_)
                  · refine lv_ldc (v := 1000000) hx hb hown (hts _ mX5_step_7) dX5_step_166 ?_
                    refine b_put (D := D) (ci := 5) (v := .int 1000000) (ty := .int) (C := RX5) (T := TX5) (N := 14) hx hb hts iX5_step_5 tyX5 tyX5_ok nmX5 hown hN hB 1 rfl rfl 6 (by decide) (hts _ mX5_step_5) (fun _ h9 => h9) rfl (by decide +kernel) rfl rfl (Nat.le_of_ble_eq_true rfl) (.inr ⟨rfl, List.mem_of_getElem? (i := 0) rfl⟩) dX5_step_168 (fun H locs hB => ?_)
                    have hB : Bx B0 D _ [(f1410_0, .inl (cs 1, 600, .inl g1411)), (w, .inr (5, [.ref f1410_0, .int (nI ((κ w).2.2.1)), .int (nI f1410_2), .int (nI k2), .int 1, .int (nI k1), .int 1000000, .int f1410_7, .int f1410_8, .ref f1410_9, .int (nI f1410_10), f1410_11, .int f1410_12, .int f1410_13]))] [w] _ _ := hB
                    refine lv_aload_n hx hb dX5_step_171 rfl (lv_at hl 1 rfl) ?_
                    refine lv_dup hx hb dX5_step_172 rfl ?_
                    refine va_get (D := D) (ci := 5) (v := .int (nI k2)) (C := RX5) (T := TX5) (N := 14) hx hb hts iX5_step_5 hown hN.1 hB.1 1 rfl rfl 3 (by decide) (hts _ mX5_step_1) (fun _ h9 => h9) rfl dX5_step_173 ?_
                    refine lv_iconst (v := 1) hx hb dX5_step_176 (by decide) ?_
                    refine lv_iadd hx hb dX5_step_177 ?_
                    refine tp_i (nI (k2 + 1)) (nI_add k2 1) ?_
                    refine b_put (D := D) (ci := 5) (v := .int (nI (k2 + 1))) (ty := .int) (C := RX5) (T := TX5) (N := 14) hx hb hts iX5_step_5 tyX5 tyX5_ok nmX5 hown hN hB 1 rfl rfl 3 (by decide) (hts _ mX5_step_1) (fun _ h9 => h9) rfl (by decide +kernel) rfl rfl (Nat.le_of_ble_eq_true rfl) (.inr ⟨rfl, List.mem_of_getElem? (i := 0) rfl⟩) dX5_step_178 (fun H locs hB => ?_)
                    have hB : Bx B0 D _ [(f1410_0, .inl (cs 1, 600, .inl g1411)), (w, .inr (5, [.ref f1410_0, .int (nI ((κ w).2.2.1)), .int (nI f1410_2), .int (nI (k2 + 1)), .int 1, .int (nI k1), .int 1000000, .int f1410_7, .int f1410_8, .ref f1410_9, .int (nI f1410_10), f1410_11, .int f1410_12, .int f1410_13]))] [w] _ _ := hB
                    refine lv_goto (tgt := 95) hx hb dX5_step_181 (by decide) ?_
                    exact ih1467 ((k2 + 1), 1000000) _ _ _ (by show 600 - ((k2 + 1)) < 600 - k2; omega) ⟨(by show ((k2 + 1)) ≤ 600; omega), hB⟩ (lv_sub hl [1] rfl)
                  · refine lv_iload_n hx hb dX5_step_162 rfl (lv_at hl 0 rfl) ?_
                    refine lv_goto (tgt := 168) hx hb dX5_step_163 (by decide) ?_
                    refine b_put (D := D) (ci := 5) (v := .int x1476) (ty := .int) (C := RX5) (T := TX5) (N := 14) hx hb hts iX5_step_5 tyX5 tyX5_ok nmX5 hown hN hB 1 rfl rfl 6 (by decide) (hts _ mX5_step_5) (fun _ h9 => h9) rfl (by decide +kernel) rfl rfl (Nat.le_of_ble_eq_true rfl) (.inr ⟨rfl, List.mem_of_getElem? (i := 0) rfl⟩) dX5_step_168 (fun H locs hB => ?_)
                    have hB : Bx B0 D _ [(f1410_0, .inl (cs 1, 600, .inl g1411)), (w, .inr (5, [.ref f1410_0, .int (nI ((κ w).2.2.1)), .int (nI f1410_2), .int (nI k2), .int 1, .int (nI k1), .int x1476, .int f1410_7, .int f1410_8, .ref f1410_9, .int (nI f1410_10), f1410_11, .int f1410_12, .int f1410_13]))] [w] _ _ := hB
                    refine lv_aload_n hx hb dX5_step_171 rfl (lv_at hl 1 rfl) ?_
                    refine lv_dup hx hb dX5_step_172 rfl ?_
                    refine va_get (D := D) (ci := 5) (v := .int (nI k2)) (C := RX5) (T := TX5) (N := 14) hx hb hts iX5_step_5 hown hN.1 hB.1 1 rfl rfl 3 (by decide) (hts _ mX5_step_1) (fun _ h9 => h9) rfl dX5_step_173 ?_
                    refine lv_iconst (v := 1) hx hb dX5_step_176 (by decide) ?_
                    refine lv_iadd hx hb dX5_step_177 ?_
                    refine tp_i (nI (k2 + 1)) (nI_add k2 1) ?_
                    refine b_put (D := D) (ci := 5) (v := .int (nI (k2 + 1))) (ty := .int) (C := RX5) (T := TX5) (N := 14) hx hb hts iX5_step_5 tyX5 tyX5_ok nmX5 hown hN hB 1 rfl rfl 3 (by decide) (hts _ mX5_step_1) (fun _ h9 => h9) rfl (by decide +kernel) rfl rfl (Nat.le_of_ble_eq_true rfl) (.inr ⟨rfl, List.mem_of_getElem? (i := 0) rfl⟩) dX5_step_178 (fun H locs hB => ?_)
                    have hB : Bx B0 D _ [(f1410_0, .inl (cs 1, 600, .inl g1411)), (w, .inr (5, [.ref f1410_0, .int (nI ((κ w).2.2.1)), .int (nI f1410_2), .int (nI (k2 + 1)), .int 1, .int (nI k1), .int x1476, .int f1410_7, .int f1410_8, .ref f1410_9, .int (nI f1410_10), f1410_11, .int f1410_12, .int f1410_13]))] [w] _ _ := hB
                    refine lv_goto (tgt := 95) hx hb dX5_step_181 (by decide) ?_
                    exact ih1467 ((k2 + 1), x1476) _ _ _ (by show 600 - ((k2 + 1)) < 600 - k2; omega) ⟨(by show ((k2 + 1)) ≤ 600; omega), hB⟩ (lv_sub hl [1] rfl)
      · have c1447 : ¬ k1 < f1410_2 := fun h9 => c1447 ((nI_ltI (a := k1) (b := f1410_2) (by omega) (by omega)).mpr h9)
        refine lv_aload_n hx hb dX5_step_62 rfl (lv_at hl 0 rfl) ?_
        refine lv_iconst (v := 0) hx hb dX5_step_63 (by decide) ?_
        refine b_put (D := D) (ci := 5) (v := .int 0) (ty := .int) (C := RX5) (T := TX5) (N := 14) hx hb hts iX5_step_5 tyX5 tyX5_ok nmX5 hown hN hB 1 rfl rfl 4 (by decide) (hts _ mX5_step_6) (fun _ h9 => h9) rfl (by decide +kernel) rfl rfl (Nat.le_of_ble_eq_true rfl) (.inr ⟨rfl, List.mem_of_getElem? (i := 0) rfl⟩) dX5_step_64 (fun H locs hB => ?_)
        have hB : Bx B0 D _ [(f1410_0, .inl (cs 1, 600, .inl g1411)), (w, .inr (5, [.ref f1410_0, .int (nI ((κ w).2.2.1)), .int (nI f1410_2), .int (nI k1), .int 0, .int (nI k1), .int 0, .int f1410_7, .int f1410_8, .ref f1410_9, .int (nI f1410_10), f1410_11, .int f1410_12, .int f1410_13]))] [w] _ _ := hB
        have hT : WT B0 D cs T κ _ := hT.close hB ⟨⟨1, _, rfl, ok_6 hw.1 ⟨_, _, _, _, _, _, _, _, _, _, _, _, _, rfl, (by omega), (by omega), (by omega), (by omega), (by omega), t1410_0, t1410_9, c1410_11, c1410_p2⟩⟩, trivial⟩
        have hF : Fr B0 [10] κ H0 _ := hF.close hB (fa_c (by simp [hw.2]) fa_n)
        have hL : OkL B0 _ := hB.2.2.2.2.2
        have hP : va_P D vwCl [(f1410_0, .inl (cs 1, 600, .inl g1411)), (w, .inr (5, [.ref f1410_0, .int (nI ((κ w).2.2.1)), .int (nI f1410_2), .int (nI k1), .int 0, .int (nI k1), .int 0, .int f1410_7, .int f1410_8, .ref f1410_9, .int (nI f1410_10), f1410_11, .int f1410_12, .int f1410_13]))] _ := hB.1
        exact en_v hx hb hr hlocks hL (Nat.zero_le _) (Nat.zero_le _) dX5_step_67 (⟨hT, hF, fun v h9 => ⟨_, hP 1 _ rfl, by rw [FI.eq h9 hat1410 rfl (by decide) rfl]; rfl⟩⟩)
    · refine lv_aload_n hx hb dX5_step_25 rfl (lv_at hl 0 rfl) ?_
      refine lv_dup hx hb dX5_step_26 rfl ?_
      refine va_get (D := D) (ci := 5) (v := .int (nI k1)) (C := RX5) (T := TX5) (N := 14) hx hb hts iX5_step_5 hown hN.1 hB.1 1 rfl rfl 3 (by decide) (hts _ mX5_step_1) (fun _ h9 => h9) rfl dX5_step_27 ?_
      refine lv_iconst (v := 1) hx hb dX5_step_30 (by decide) ?_
      refine lv_iadd hx hb dX5_step_31 ?_
      refine tp_i (nI (k1 + 1)) (nI_add k1 1) ?_
      refine b_put (D := D) (ci := 5) (v := .int (nI (k1 + 1))) (ty := .int) (C := RX5) (T := TX5) (N := 14) hx hb hts iX5_step_5 tyX5 tyX5_ok nmX5 hown hN hB 1 rfl rfl 3 (by decide) (hts _ mX5_step_1) (fun _ h9 => h9) rfl (by decide +kernel) rfl rfl (Nat.le_of_ble_eq_true rfl) (.inr ⟨rfl, List.mem_of_getElem? (i := 0) rfl⟩) dX5_step_32 (fun H locs hB => ?_)
      have hB : Bx B0 D _ [(f1410_0, .inl (cs 1, 600, .inl g1411)), (w, .inr (5, [.ref f1410_0, .int (nI ((κ w).2.2.1)), .int (nI f1410_2), .int (nI (k1 + 1)), .int f1410_4, .int (nI f1410_5), .int f1410_6, .int f1410_7, .int f1410_8, .ref f1410_9, .int (nI f1410_10), f1410_11, .int f1410_12, .int f1410_13]))] [w] _ _ := hB
      refine lv_goto (tgt := 0) hx hb dX5_step_35 (by decide) ?_
      exact ih1412 (k1 + 1) _ _ _ (by show 600 - ((k1 + 1)) < 600 - k1; omega) ⟨(by show ((k1 + 1)) ≤ 600; omega), hB⟩ (lv_sub hl [0] rfl)
theorem mX5_putCode_1 : (.fieldLink RX5 38 "OneBeat$Reader" "codeCount" "I" : Cond) ∈ wsX5_putCode := List.mem_of_getElem? (i := 1) (by decide +kernel)
theorem iX5_putCode_5 : ∀ w ∈ wsX50, w ∈ wsX5_putCode := fun w h => List.mem_of_mem_drop (List.mem_of_mem_take ((show wsX50 = (wsX5_putCode.drop 3).take 14 by decide +kernel) ▸ h))
theorem mX5_putCode_2 : (.fieldLink RX5 15 "OneBeat$Reader" "codes" "[I" : Cond) ∈ wsX5_putCode := List.mem_of_getElem? (i := 2) (by decide +kernel)
set_option maxHeartbeats 4000000 in
set_option maxRecDepth 100000 in
theorem c_X5_putCode {l : Launch} {D : va_G} {cs : Nat → ClassId} {B0 T : Nat} {κ : KM} {H0 : Heap} (hT : WT B0 D cs T κ H0) {w : Nat} (hw : T2 κ w 6 10) {x : Int32} : KC l yX5_putCode wsX5_putCode 0 0 0 0 D cs B0 H0 [.ref w, .int x] (Qv (fun H => WT B0 D cs T κ H ∧ Fr B0 [10] κ H0 H)) := by
  refine KC.of cX5_putCode 2 none (by decide) rfl (Nat.le_of_ble_eq_true rfl) ?_
  intro p e s m below meth c ls hx hb hr hml hown hts hlocks hin hN hE hH0 hl
  have hown : s.vm.findClass RX5 = some m.cls := hown
  have hl : lv_has ls 2 [(0, .ref w), (1, .int x)] := hl
  have hL : OkL B0 [] := OkL.nil
  have hF : Fr B0 [10] κ H0 H0 := Fr.rf
  refine lv_aload_n hx hb dX5_putCode_0 rfl (lv_at hl 0 rfl) ?_
  obtain ⟨hb1478, e1478, hat1478, hk1478⟩ := hT.o6 hw.1
  obtain ⟨f1478_0, f1478_2, f1478_3, f1478_4, f1478_5, f1478_6, f1478_7, f1478_8, f1478_9, f1478_10, f1478_11, f1478_12, f1478_13, rfl, c1478_1, c1478_2, c1478_3, c1478_5, c1478_10, t1478_0, t1478_9, c1478_11, c1478_p2⟩ := hk1478
  have hP : va_P D vwCl [(w, .inr (5, [.ref f1478_0, .int (nI ((κ w).2.2.1)), .int (nI f1478_2), .int (nI f1478_3), .int f1478_4, .int (nI f1478_5), .int f1478_6, .int f1478_7, .int f1478_8, .ref f1478_9, .int (nI f1478_10), f1478_11, .int f1478_12, .int f1478_13]))] _ := va_P.cons hat1478 va_P.nil
  refine va_get (D := D) (ci := 5) (v := .int (nI f1478_10)) (C := RX5) (T := TX5) (N := 14) hx hb hts iX5_putCode_5 hown hN.1 hP 0 rfl rfl 10 (by decide) (hts _ mX5_putCode_1) (fun _ h9 => h9) rfl dX5_putCode_1 ?_
  refine lv_aload_n hx hb dX5_putCode_4 rfl (lv_at hl 0 rfl) ?_
  refine va_get (D := D) (ci := 5) (v := .ref f1478_9) (C := RX5) (T := TX5) (N := 14) hx hb hts iX5_putCode_5 hown hN.1 hP 0 rfl rfl 9 (by decide) (hts _ mX5_putCode_2) (fun _ h9 => h9) rfl dX5_putCode_5 ?_
  obtain ⟨hb1479, e1479, hat1479, hk1479⟩ := hT.o17 t1478_9.1
  obtain ⟨g1479, rfl⟩ := hk1479
  have hP : va_P D vwCl [(f1478_9, .inl (cs 0, 600, .inl g1479)), (w, .inr (5, [.ref f1478_0, .int (nI ((κ w).2.2.1)), .int (nI f1478_2), .int (nI f1478_3), .int f1478_4, .int (nI f1478_5), .int f1478_6, .int f1478_7, .int f1478_8, .ref f1478_9, .int (nI f1478_10), f1478_11, .int f1478_12, .int f1478_13]))] _ := va_P.cons hat1479 hP
  refine va_alen (v := 600) hx hb hN.1 hP 0 0 rfl rfl rfl dX5_putCode_8 ?_
  refine lv_icmp_ge (tgt := 32) hx hb dX5_putCode_9 (by decide) (fun c1480 => ?_) (fun c1480 => ?_)
  · have c1480 : 600 ≤ f1478_10 := (nI_leI (a := 600) (b := f1478_10) (by omega) (by omega)).mp c1480
    exact en_v hx hb hr hlocks hL (Nat.zero_le _) (Nat.zero_le _) dX5_putCode_32 (⟨hT, hF⟩)
  · have c1480 : ¬ 600 ≤ f1478_10 := fun h9 => c1480 ((nI_leI (a := 600) (b := f1478_10) (by omega) (by omega)).mpr h9)
    refine lv_aload_n hx hb dX5_putCode_12 rfl (lv_at hl 0 rfl) ?_
    refine va_get (D := D) (ci := 5) (v := .ref f1478_9) (C := RX5) (T := TX5) (N := 14) hx hb hts iX5_putCode_5 hown hN.1 hP 1 rfl rfl 9 (by decide) (hts _ mX5_putCode_2) (fun _ h9 => h9) rfl dX5_putCode_13 ?_
    refine lv_aload_n hx hb dX5_putCode_16 rfl (lv_at hl 0 rfl) ?_
    refine va_get (D := D) (ci := 5) (v := .int (nI f1478_10)) (C := RX5) (T := TX5) (N := 14) hx hb hts iX5_putCode_5 hown hN.1 hP 1 rfl rfl 10 (by decide) (hts _ mX5_putCode_1) (fun _ h9 => h9) rfl dX5_putCode_17 ?_
    refine lv_iload_n hx hb dX5_putCode_20 rfl (lv_at hl 1 rfl) ?_
    have hB : Bx B0 D _ [(f1478_9, .inl (cs 0, 600, .inl g1479)), (w, .inr (5, [.ref f1478_0, .int (nI ((κ w).2.2.1)), .int (nI f1478_2), .int (nI f1478_3), .int f1478_4, .int (nI f1478_5), .int f1478_6, .int f1478_7, .int f1478_8, .ref f1478_9, .int (nI f1478_10), f1478_11, .int f1478_12, .int f1478_13]))] [] _ _ := Bx.of (fun a => (κ a).1) hL hP (fa_c hb1479 (fa_c hb1478 fa_n)) (by simp only [List.map_cons, List.map_nil, t1478_9.1, hw.1]; decide)
    refine b_i hx hb hN hB 0 rfl (vp_in_nI (n := f1478_10) (N := 600) (by omega) (by omega)) (.inl rfl) dX5_putCode_21 (fun H locs hB => ?_)
    rw [(show ((nI f1478_10) : Int32).toNatClampNeg = f1478_10 from nI_clamp (n := f1478_10) (by omega))] at hB
    have hB : Bx B0 D _ [(f1478_9, .inl (cs 0, 600, .inl (upd g1479 f1478_10 x))), (w, .inr (5, [.ref f1478_0, .int (nI ((κ w).2.2.1)), .int (nI f1478_2), .int (nI f1478_3), .int f1478_4, .int (nI f1478_5), .int f1478_6, .int f1478_7, .int f1478_8, .ref f1478_9, .int (nI f1478_10), f1478_11, .int f1478_12, .int f1478_13]))] [f1478_9] _ _ := hB
    generalize (upd g1479 f1478_10 x) = g1481 at hB
    refine lv_aload_n hx hb dX5_putCode_22 rfl (lv_at hl 0 rfl) ?_
    refine lv_dup hx hb dX5_putCode_23 rfl ?_
    refine va_get (D := D) (ci := 5) (v := .int (nI f1478_10)) (C := RX5) (T := TX5) (N := 14) hx hb hts iX5_putCode_5 hown hN.1 hB.1 1 rfl rfl 10 (by decide) (hts _ mX5_putCode_1) (fun _ h9 => h9) rfl dX5_putCode_24 ?_
    refine lv_iconst (v := 1) hx hb dX5_putCode_27 (by decide) ?_
    refine lv_iadd hx hb dX5_putCode_28 ?_
    refine tp_i (nI (f1478_10 + 1)) (nI_add f1478_10 1) ?_
    refine b_put (D := D) (ci := 5) (v := .int (nI (f1478_10 + 1))) (ty := .int) (C := RX5) (T := TX5) (N := 14) hx hb hts iX5_putCode_5 tyX5 tyX5_ok nmX5 hown hN hB 1 rfl rfl 10 (by decide) (hts _ mX5_putCode_1) (fun _ h9 => h9) rfl (by decide +kernel) rfl rfl (Nat.le_of_ble_eq_true rfl) (.inl rfl) dX5_putCode_29 (fun H locs hB => ?_)
    have hB : Bx B0 D _ [(f1478_9, .inl (cs 0, 600, .inl g1481)), (w, .inr (5, [.ref f1478_0, .int (nI ((κ w).2.2.1)), .int (nI f1478_2), .int (nI f1478_3), .int f1478_4, .int (nI f1478_5), .int f1478_6, .int f1478_7, .int f1478_8, .ref f1478_9, .int (nI (f1478_10 + 1)), f1478_11, .int f1478_12, .int f1478_13]))] [w, f1478_9] _ _ := hB
    have hT : WT B0 D cs T κ _ := hT.close hB ⟨⟨1, _, rfl, ok_6 hw.1 ⟨_, _, _, _, _, _, _, _, _, _, _, _, _, rfl, (by omega), (by omega), (by omega), (by omega), (by omega), t1478_0, t1478_9, c1478_11, c1478_p2⟩⟩, ⟨⟨0, _, rfl, ok_17 t1478_9.1 ⟨_, rfl⟩⟩, trivial⟩⟩
    have hF : Fr B0 [10] κ H0 _ := hF.close hB (fa_c (by simp [hw.2]) (fa_c (by simp [t1478_9.2]) fa_n))
    have hL : OkL B0 _ := hB.2.2.2.2.2
    have hP : va_P D vwCl [(f1478_9, .inl (cs 0, 600, .inl g1481)), (w, .inr (5, [.ref f1478_0, .int (nI ((κ w).2.2.1)), .int (nI f1478_2), .int (nI f1478_3), .int f1478_4, .int (nI f1478_5), .int f1478_6, .int f1478_7, .int f1478_8, .ref f1478_9, .int (nI (f1478_10 + 1)), f1478_11, .int f1478_12, .int f1478_13]))] _ := hB.1
    exact en_v hx hb hr hlocks hL (Nat.zero_le _) (Nat.zero_le _) dX5_putCode_32 (⟨hT, hF⟩)
theorem hdX5_isWord_v : yX5_isWord.cls = RX5 ∧ yX5_isWord.cls ≠ "java/lang/invoke/MethodHandle" ∧ yX5_isWord.cls ≠ "java/lang/invoke/VarHandle" ∧ (parseMethodDescriptor yX5_isWord.desc).map (fun d => d.parameters.length) = some 1 := by decide +kernel
theorem mX5_takeWord_1 : (.fieldLink RX5 124 "OneBeat$Reader" "start" "I" : Cond) ∈ wsX5_takeWord := List.mem_of_getElem? (i := 1) (by decide +kernel)
theorem iX5_takeWord_5 : ∀ w ∈ wsX50, w ∈ wsX5_takeWord := fun w h => List.mem_of_mem_drop (List.mem_of_mem_take ((show wsX50 = (wsX5_takeWord.drop 72).take 14 by decide +kernel) ▸ h))
theorem hdX5_fail_v : yX5_fail.cls = RX5 ∧ yX5_fail.cls ≠ "java/lang/invoke/MethodHandle" ∧ yX5_fail.cls ≠ "java/lang/invoke/VarHandle" ∧ (parseMethodDescriptor yX5_fail.desc).map (fun d => d.parameters.length) = some 2 := by decide +kernel
theorem hdX5_step_v : yX5_step.cls = RX5 ∧ yX5_step.cls ≠ "java/lang/invoke/MethodHandle" ∧ yX5_step.cls ≠ "java/lang/invoke/VarHandle" ∧ (parseMethodDescriptor yX5_step.desc).map (fun d => d.parameters.length) = some 0 := by decide +kernel
set_option maxHeartbeats 4000000 in
set_option maxRecDepth 100000 in
theorem c_X5_takeWord {l : Launch} {D : va_G} {cs : Nat → ClassId} {B0 T : Nat} {κ : KM} {H0 : Heap} (hT : WT B0 D cs T κ H0) {w : Nat} (hw : T2 κ w 6 10) {i : Nat} (hi9 : i ∈ nW) : KC l yX5_takeWord wsX5_takeWord 5 107 0 0 D cs B0 H0 [.ref w, .ref (cs (100 + i))] (Qi (fun r H => WT B0 D cs T κ H ∧ Fr B0 [10] κ H0 H ∧ (r = 0 ∨ r = 1))) := by
  refine KC.of cX5_takeWord 2 (some .boolean) (by decide) rfl (Nat.le_of_ble_eq_true rfl) ?_
  intro p e s m below meth c ls hx hb hr hml hown hts hlocks hin hN hE hH0 hl
  have hown : s.vm.findClass RX5 = some m.cls := hown
  have hl : lv_has ls 2 [(0, .ref w), (1, .ref (cs (100 + i)))] := hl
  have hL : OkL B0 [] := OkL.nil
  have hF : Fr B0 [10] κ H0 H0 := Fr.rf
  refine lv_aload_n hx hb dX5_takeWord_0 rfl (lv_at hl 0 rfl) ?_
  refine lv_aload_n hx hb dX5_takeWord_1 rfl (lv_at hl 1 rfl) ?_
  refine cv_i (As := [.ref (cs (100 + i))]) (rest := []) (b := w) ⟨hx, hb, hml, hown, hts⟩ (c_X5_isWord hT (w := w) hw (i := i) hi9) (cwV 1 hts gX5_takeWord_X5_isWord rfl rfl rfl hdX5_isWord_v ⟨Nat.le_of_ble_eq_true rfl, Nat.le_of_ble_eq_true rfl⟩) hN hE hL (rcv6 hN hT hw.1) rfl rfl hl.1 (Nat.le_of_ble_eq_true rfl) dX5_takeWord_2 (Nat.zero_le _) (Nat.zero_le _) (fun r1482 H1 locs hL hqr1482 => ?_)
  obtain ⟨h9, hqr1482⟩ := hqr1482; replace h9 := h9.symm; subst h9
  rcases hqr1482 with rfl | rfl
  · refine lv_if_ne (tgt := 19) hx hb dX5_takeWord_5 (by decide) (fun c9 => absurd (by decide) c9) (fun _ => ?_)
    refine lv_aload_n hx hb dX5_takeWord_8 rfl (lv_at hl 0 rfl) ?_
    refine lv_bipush (v := (-2)) hx hb dX5_takeWord_9 (by decide) ?_
    refine lv_aload_n hx hb dX5_takeWord_11 rfl (lv_at hl 0 rfl) ?_
    obtain ⟨hb1483, e1483, hat1483, hk1483⟩ := hT.o6 hw.1
    obtain ⟨f1483_0, f1483_2, f1483_3, f1483_4, f1483_5, f1483_6, f1483_7, f1483_8, f1483_9, f1483_10, f1483_11, f1483_12, f1483_13, rfl, c1483_1, c1483_2, c1483_3, c1483_5, c1483_10, t1483_0, t1483_9, c1483_11, c1483_p2⟩ := hk1483
    have hP : va_P D vwCl [(w, .inr (5, [.ref f1483_0, .int (nI ((κ w).2.2.1)), .int (nI f1483_2), .int (nI f1483_3), .int f1483_4, .int (nI f1483_5), .int f1483_6, .int f1483_7, .int f1483_8, .ref f1483_9, .int (nI f1483_10), f1483_11, .int f1483_12, .int f1483_13]))] _ := va_P.cons hat1483 va_P.nil
    refine va_get (D := D) (ci := 5) (v := .int (nI f1483_5)) (C := RX5) (T := TX5) (N := 14) hx hb hts iX5_takeWord_5 hown hN.1 hP 0 rfl rfl 5 (by decide) (hts _ mX5_takeWord_1) (fun _ h9 => h9) rfl dX5_takeWord_12 ?_
    refine cv_i (As := [.int (-2), .int (nI f1483_5)]) (rest := []) (b := w) ⟨hx, hb, hml, hown, hts⟩ (c_X5_fail hT (w := w) hw (x := (-2)) (y := (nI f1483_5))) (cwV 2 hts gX5_takeWord_X5_fail rfl rfl rfl hdX5_fail_v ⟨Nat.le_of_ble_eq_true rfl, Nat.le_of_ble_eq_true rfl⟩) hN hE hL (rcv6 hN hT hw.1) rfl rfl hl.1 (Nat.le_of_ble_eq_true rfl) dX5_takeWord_15 (Nat.zero_le _) (Nat.zero_le _) (fun r1484 H1 locs hL hqr1484 => ?_)
    obtain ⟨hT1, hF1, hqr1484⟩ := hqr1484
    have hF := hF.tr (hF1.mono (by simp))
    have hT := hT1
    obtain rfl := hqr1484
    exact en_i hx hb hr hlocks hL rfl (Nat.zero_le _) (Nat.zero_le _) dX5_takeWord_18 (⟨hT, hF, Or.inl rfl⟩)
  · refine lv_if_ne (tgt := 19) hx hb dX5_takeWord_5 (by decide) (fun _ => ?_) (fun c9 => absurd c9 (by decide))
    refine lv_aload_n hx hb dX5_takeWord_19 rfl (lv_at hl 0 rfl) ?_
    refine cv_v (As := []) (rest := []) (b := w) ⟨hx, hb, hml, hown, hts⟩ (c_X5_step hT (w := w) hw) (cwV 0 hts gX5_takeWord_X5_step rfl rfl rfl hdX5_step_v ⟨Nat.le_of_ble_eq_true rfl, Nat.le_of_ble_eq_true rfl⟩) hN hE hL (rcv6 hN hT hw.1) rfl rfl hl.1 (Nat.le_of_ble_eq_true rfl) dX5_takeWord_20 (Nat.zero_le _) (Nat.zero_le _) (fun H1 locs hL hqr1485 => ?_)
    obtain ⟨hT1, hF1, hqr1485⟩ := hqr1485
    have hF := hF.tr (hF1.mono (by simp))
    have hT := hT1
    have f1486 := hqr1485
    refine lv_iconst (v := 1) hx hb dX5_takeWord_23 (by decide) ?_
    exact en_i hx hb hr hlocks hL rfl (Nat.zero_le _) (Nat.zero_le _) dX5_takeWord_24 (⟨hT, hF, Or.inr rfl⟩)
theorem hdX5_isMark_v : yX5_isMark.cls = RX5 ∧ yX5_isMark.cls ≠ "java/lang/invoke/MethodHandle" ∧ yX5_isMark.cls ≠ "java/lang/invoke/VarHandle" ∧ (parseMethodDescriptor yX5_isMark.desc).map (fun d => d.parameters.length) = some 1 := by decide +kernel
theorem mX5_takeMark_1 : (.fieldLink RX5 124 "OneBeat$Reader" "start" "I" : Cond) ∈ wsX5_takeMark := List.mem_of_getElem? (i := 1) (by decide +kernel)
theorem iX5_takeMark_5 : ∀ w ∈ wsX50, w ∈ wsX5_takeMark := fun w h => List.mem_of_mem_drop (List.mem_of_mem_take ((show wsX50 = (wsX5_takeMark.drop 23).take 14 by decide +kernel) ▸ h))
set_option maxHeartbeats 4000000 in
set_option maxRecDepth 100000 in
theorem c_X5_takeMark {l : Launch} {D : va_G} {cs : Nat → ClassId} {B0 T : Nat} {κ : KM} {H0 : Heap} (hT : WT B0 D cs T κ H0) {w : Nat} (hw : T2 κ w 6 10) {x : Int32} : KC l yX5_takeMark wsX5_takeMark 1 22 0 0 D cs B0 H0 [.ref w, .int x] (Qi (fun r H => WT B0 D cs T κ H ∧ Fr B0 [10] κ H0 H ∧ (r = 0 ∨ r = 1))) := by
  refine KC.of cX5_takeMark 2 (some .boolean) (by decide) rfl (Nat.le_of_ble_eq_true rfl) ?_
  intro p e s m below meth c ls hx hb hr hml hown hts hlocks hin hN hE hH0 hl
  have hown : s.vm.findClass RX5 = some m.cls := hown
  have hl : lv_has ls 2 [(0, .ref w), (1, .int x)] := hl
  have hL : OkL B0 [] := OkL.nil
  have hF : Fr B0 [10] κ H0 H0 := Fr.rf
  refine lv_aload_n hx hb dX5_takeMark_0 rfl (lv_at hl 0 rfl) ?_
  refine lv_iload_n hx hb dX5_takeMark_1 rfl (lv_at hl 1 rfl) ?_
  refine cv_i (As := [.int x]) (rest := []) (b := w) ⟨hx, hb, hml, hown, hts⟩ (c_X5_isMark hT (w := w) hw (x := x)) (cwV 1 hts gX5_takeMark_X5_isMark rfl rfl rfl hdX5_isMark_v ⟨Nat.le_of_ble_eq_true rfl, Nat.le_of_ble_eq_true rfl⟩) hN hE hL (rcv6 hN hT hw.1) rfl rfl hl.1 (Nat.le_of_ble_eq_true rfl) dX5_takeMark_2 (Nat.zero_le _) (Nat.zero_le _) (fun r1487 H1 locs hL hqr1487 => ?_)
  obtain ⟨h9, hqr1487⟩ := hqr1487; replace h9 := h9.symm; subst h9
  rcases hqr1487 with rfl | rfl
  · refine lv_if_ne (tgt := 19) hx hb dX5_takeMark_5 (by decide) (fun c9 => absurd (by decide) c9) (fun _ => ?_)
    refine lv_aload_n hx hb dX5_takeMark_8 rfl (lv_at hl 0 rfl) ?_
    refine lv_bipush (v := (-2)) hx hb dX5_takeMark_9 (by decide) ?_
    refine lv_aload_n hx hb dX5_takeMark_11 rfl (lv_at hl 0 rfl) ?_
    obtain ⟨hb1488, e1488, hat1488, hk1488⟩ := hT.o6 hw.1
    obtain ⟨f1488_0, f1488_2, f1488_3, f1488_4, f1488_5, f1488_6, f1488_7, f1488_8, f1488_9, f1488_10, f1488_11, f1488_12, f1488_13, rfl, c1488_1, c1488_2, c1488_3, c1488_5, c1488_10, t1488_0, t1488_9, c1488_11, c1488_p2⟩ := hk1488
    have hP : va_P D vwCl [(w, .inr (5, [.ref f1488_0, .int (nI ((κ w).2.2.1)), .int (nI f1488_2), .int (nI f1488_3), .int f1488_4, .int (nI f1488_5), .int f1488_6, .int f1488_7, .int f1488_8, .ref f1488_9, .int (nI f1488_10), f1488_11, .int f1488_12, .int f1488_13]))] _ := va_P.cons hat1488 va_P.nil
    refine va_get (D := D) (ci := 5) (v := .int (nI f1488_5)) (C := RX5) (T := TX5) (N := 14) hx hb hts iX5_takeMark_5 hown hN.1 hP 0 rfl rfl 5 (by decide) (hts _ mX5_takeMark_1) (fun _ h9 => h9) rfl dX5_takeMark_12 ?_
    refine cv_i (As := [.int (-2), .int (nI f1488_5)]) (rest := []) (b := w) ⟨hx, hb, hml, hown, hts⟩ (c_X5_fail hT (w := w) hw (x := (-2)) (y := (nI f1488_5))) (cwV 2 hts gX5_takeMark_X5_fail rfl rfl rfl hdX5_fail_v ⟨Nat.le_of_ble_eq_true rfl, Nat.le_of_ble_eq_true rfl⟩) hN hE hL (rcv6 hN hT hw.1) rfl rfl hl.1 (Nat.le_of_ble_eq_true rfl) dX5_takeMark_15 (Nat.zero_le _) (Nat.zero_le _) (fun r1489 H1 locs hL hqr1489 => ?_)
    obtain ⟨hT1, hF1, hqr1489⟩ := hqr1489
    have hF := hF.tr (hF1.mono (by simp))
    have hT := hT1
    obtain rfl := hqr1489
    exact en_i hx hb hr hlocks hL rfl (Nat.zero_le _) (Nat.zero_le _) dX5_takeMark_18 (⟨hT, hF, Or.inl rfl⟩)
  · refine lv_if_ne (tgt := 19) hx hb dX5_takeMark_5 (by decide) (fun _ => ?_) (fun c9 => absurd c9 (by decide))
    refine lv_aload_n hx hb dX5_takeMark_19 rfl (lv_at hl 0 rfl) ?_
    refine cv_v (As := []) (rest := []) (b := w) ⟨hx, hb, hml, hown, hts⟩ (c_X5_step hT (w := w) hw) (cwV 0 hts gX5_takeMark_X5_step rfl rfl rfl hdX5_step_v ⟨Nat.le_of_ble_eq_true rfl, Nat.le_of_ble_eq_true rfl⟩) hN hE hL (rcv6 hN hT hw.1) rfl rfl hl.1 (Nat.le_of_ble_eq_true rfl) dX5_takeMark_20 (Nat.zero_le _) (Nat.zero_le _) (fun H1 locs hL hqr1490 => ?_)
    obtain ⟨hT1, hF1, hqr1490⟩ := hqr1490
    have hF := hF.tr (hF1.mono (by simp))
    have hT := hT1
    have f1491 := hqr1490
    refine lv_iconst (v := 1) hx hb dX5_takeMark_23 (by decide) ?_
    exact en_i hx hb hr hlocks hL rfl (Nat.zero_le _) (Nat.zero_le _) dX5_takeMark_24 (⟨hT, hF, Or.inr rfl⟩)
theorem mX5_takeNumber_1 : (.fieldLink RX5 73 "OneBeat$Reader" "kind" "I" : Cond) ∈ wsX5_takeNumber := List.mem_of_getElem? (i := 1) (by decide +kernel)
theorem iX5_takeNumber_5 : ∀ w ∈ wsX50, w ∈ wsX5_takeNumber := fun w h => List.mem_of_mem_drop (List.mem_of_mem_take ((show wsX50 = (wsX5_takeNumber.drop 21).take 14 by decide +kernel) ▸ h))
theorem mX5_takeNumber_3 : (.fieldLink RX5 175 "OneBeat$Reader" "value" "I" : Cond) ∈ wsX5_takeNumber := List.mem_of_getElem? (i := 3) (by decide +kernel)
theorem mX5_takeNumber_2 : (.fieldLink RX5 124 "OneBeat$Reader" "start" "I" : Cond) ∈ wsX5_takeNumber := List.mem_of_getElem? (i := 2) (by decide +kernel)
theorem mX5_takeNumber_4 : (.fieldLink RX5 59 "OneBeat$Reader" "taken" "I" : Cond) ∈ wsX5_takeNumber := List.mem_of_getElem? (i := 4) (by decide +kernel)
theorem mX5_takeNumber_5 : (.fieldLink RX5 135 "OneBeat$Reader" "takenAt" "I" : Cond) ∈ wsX5_takeNumber := List.mem_of_getElem? (i := 5) (by decide +kernel)
set_option maxHeartbeats 4000000 in
set_option maxRecDepth 100000 in
theorem c_X5_takeNumber {l : Launch} {D : va_G} {cs : Nat → ClassId} {B0 T : Nat} {κ : KM} {H0 : Heap} (hT : WT B0 D cs T κ H0) {w : Nat} (hw : T2 κ w 6 10) {x : Int32} {y : Int32} : KC l yX5_takeNumber wsX5_takeNumber 1 22 0 0 D cs B0 H0 [.ref w, .int x, .int y] (Qi (fun r H => WT B0 D cs T κ H ∧ Fr B0 [10] κ H0 H ∧ (r = 0 ∨ (r = 1 ∧ ∃ v : Int32, ¬ v < x ∧ ¬ y < v ∧ FI D w 5 7 (.int v) H)))) := by
  refine KC.of cX5_takeNumber 3 (some .boolean) (by decide) rfl (Nat.le_of_ble_eq_true rfl) ?_
  intro p e s m below meth c ls hx hb hr hml hown hts hlocks hin hN hE hH0 hl
  have hown : s.vm.findClass RX5 = some m.cls := hown
  have hl : lv_has ls 3 [(0, .ref w), (1, .int x), (2, .int y)] := hl
  have hL : OkL B0 [] := OkL.nil
  have hF : Fr B0 [10] κ H0 H0 := Fr.rf
  refine lv_aload_n hx hb dX5_takeNumber_0 rfl (lv_at hl 0 rfl) ?_
  obtain ⟨hb1492, e1492, hat1492, hk1492⟩ := hT.o6 hw.1
  obtain ⟨f1492_0, f1492_2, f1492_3, f1492_4, f1492_5, f1492_6, f1492_7, f1492_8, f1492_9, f1492_10, f1492_11, f1492_12, f1492_13, rfl, c1492_1, c1492_2, c1492_3, c1492_5, c1492_10, t1492_0, t1492_9, c1492_11, c1492_p2⟩ := hk1492
  have hP : va_P D vwCl [(w, .inr (5, [.ref f1492_0, .int (nI ((κ w).2.2.1)), .int (nI f1492_2), .int (nI f1492_3), .int f1492_4, .int (nI f1492_5), .int f1492_6, .int f1492_7, .int f1492_8, .ref f1492_9, .int (nI f1492_10), f1492_11, .int f1492_12, .int f1492_13]))] _ := va_P.cons hat1492 va_P.nil
  refine va_get (D := D) (ci := 5) (v := .int f1492_4) (C := RX5) (T := TX5) (N := 14) hx hb hts iX5_takeNumber_5 hown hN.1 hP 0 rfl rfl 4 (by decide) (hts _ mX5_takeNumber_1) (fun _ h9 => h9) rfl dX5_takeNumber_1 ?_
  refine lv_iconst (v := 1) hx hb dX5_takeNumber_4 (by decide) ?_
  refine lv_icmp_eq (tgt := 19) hx hb dX5_takeNumber_5 (by decide) (fun c1493 => ?_) (fun c1493 => ?_)
  · refine lv_aload_n hx hb dX5_takeNumber_19 rfl (lv_at hl 0 rfl) ?_
    refine va_get (D := D) (ci := 5) (v := .int f1492_6) (C := RX5) (T := TX5) (N := 14) hx hb hts iX5_takeNumber_5 hown hN.1 hP 0 rfl rfl 6 (by decide) (hts _ mX5_takeNumber_3) (fun _ h9 => h9) rfl dX5_takeNumber_20 ?_
    refine lv_iload_n hx hb dX5_takeNumber_23 rfl (lv_at hl 1 rfl) ?_
    refine lv_icmp_lt (tgt := 35) hx hb dX5_takeNumber_24 (by decide) (fun c1494 => ?_) (fun c1494 => ?_)
    · refine lv_aload_n hx hb dX5_takeNumber_35 rfl (lv_at hl 0 rfl) ?_
      refine lv_bipush (v := (-3)) hx hb dX5_takeNumber_36 (by decide) ?_
      refine lv_aload_n hx hb dX5_takeNumber_38 rfl (lv_at hl 0 rfl) ?_
      refine va_get (D := D) (ci := 5) (v := .int (nI f1492_5)) (C := RX5) (T := TX5) (N := 14) hx hb hts iX5_takeNumber_5 hown hN.1 hP 0 rfl rfl 5 (by decide) (hts _ mX5_takeNumber_2) (fun _ h9 => h9) rfl dX5_takeNumber_39 ?_
      refine cv_i (As := [.int (-3), .int (nI f1492_5)]) (rest := []) (b := w) ⟨hx, hb, hml, hown, hts⟩ (c_X5_fail hT (w := w) hw (x := (-3)) (y := (nI f1492_5))) (cwV 2 hts gX5_takeNumber_X5_fail rfl rfl rfl hdX5_fail_v ⟨Nat.le_of_ble_eq_true rfl, Nat.le_of_ble_eq_true rfl⟩) hN hE hL (rcv6 hN hT hw.1) rfl rfl hl.1 (Nat.le_of_ble_eq_true rfl) dX5_takeNumber_42 (Nat.zero_le _) (Nat.zero_le _) (fun r1495 H1 locs hL hqr1495 => ?_)
      obtain ⟨hT1, hF1, hqr1495⟩ := hqr1495
      have hF := hF.tr (hF1.mono (by simp))
      have hT := hT1
      obtain rfl := hqr1495
      exact en_i hx hb hr hlocks hL rfl (Nat.zero_le _) (Nat.zero_le _) dX5_takeNumber_45 (⟨hT, hF, Or.inl rfl⟩)
    · refine lv_aload_n hx hb dX5_takeNumber_27 rfl (lv_at hl 0 rfl) ?_
      refine va_get (D := D) (ci := 5) (v := .int f1492_6) (C := RX5) (T := TX5) (N := 14) hx hb hts iX5_takeNumber_5 hown hN.1 hP 0 rfl rfl 6 (by decide) (hts _ mX5_takeNumber_3) (fun _ h9 => h9) rfl dX5_takeNumber_28 ?_
      refine lv_iload_n hx hb dX5_takeNumber_31 rfl (lv_at hl 2 rfl) ?_
      refine lv_icmp_le (tgt := 46) hx hb dX5_takeNumber_32 (by decide) (fun c1496 => ?_) (fun c1496 => ?_)
      · refine lv_aload_n hx hb dX5_takeNumber_46 rfl (lv_at hl 0 rfl) ?_
        refine lv_aload_n hx hb dX5_takeNumber_47 rfl (lv_at hl 0 rfl) ?_
        refine va_get (D := D) (ci := 5) (v := .int f1492_6) (C := RX5) (T := TX5) (N := 14) hx hb hts iX5_takeNumber_5 hown hN.1 hP 0 rfl rfl 6 (by decide) (hts _ mX5_takeNumber_3) (fun _ h9 => h9) rfl dX5_takeNumber_48 ?_
        have hB : Bx B0 D _ [(w, .inr (5, [.ref f1492_0, .int (nI ((κ w).2.2.1)), .int (nI f1492_2), .int (nI f1492_3), .int f1492_4, .int (nI f1492_5), .int f1492_6, .int f1492_7, .int f1492_8, .ref f1492_9, .int (nI f1492_10), f1492_11, .int f1492_12, .int f1492_13]))] [] _ _ := Bx.of (fun a => (κ a).1) hL hP (fa_c hb1492 fa_n) (by simp only [List.map_cons, List.map_nil, hw.1]; decide)
        refine b_put (D := D) (ci := 5) (v := .int f1492_6) (ty := .int) (C := RX5) (T := TX5) (N := 14) hx hb hts iX5_takeNumber_5 tyX5 tyX5_ok nmX5 hown hN hB 0 rfl rfl 7 (by decide) (hts _ mX5_takeNumber_4) (fun _ h9 => h9) rfl (by decide +kernel) rfl rfl (Nat.le_of_ble_eq_true rfl) (.inl rfl) dX5_takeNumber_51 (fun H locs hB => ?_)
        have hB : Bx B0 D _ [(w, .inr (5, [.ref f1492_0, .int (nI ((κ w).2.2.1)), .int (nI f1492_2), .int (nI f1492_3), .int f1492_4, .int (nI f1492_5), .int f1492_6, .int f1492_6, .int f1492_8, .ref f1492_9, .int (nI f1492_10), f1492_11, .int f1492_12, .int f1492_13]))] [w] _ _ := hB
        refine lv_aload_n hx hb dX5_takeNumber_54 rfl (lv_at hl 0 rfl) ?_
        refine lv_aload_n hx hb dX5_takeNumber_55 rfl (lv_at hl 0 rfl) ?_
        refine va_get (D := D) (ci := 5) (v := .int (nI f1492_5)) (C := RX5) (T := TX5) (N := 14) hx hb hts iX5_takeNumber_5 hown hN.1 hB.1 0 rfl rfl 5 (by decide) (hts _ mX5_takeNumber_2) (fun _ h9 => h9) rfl dX5_takeNumber_56 ?_
        refine b_put (D := D) (ci := 5) (v := .int (nI f1492_5)) (ty := .int) (C := RX5) (T := TX5) (N := 14) hx hb hts iX5_takeNumber_5 tyX5 tyX5_ok nmX5 hown hN hB 0 rfl rfl 8 (by decide) (hts _ mX5_takeNumber_5) (fun _ h9 => h9) rfl (by decide +kernel) rfl rfl (Nat.le_of_ble_eq_true rfl) (.inr ⟨rfl, List.mem_of_getElem? (i := 0) rfl⟩) dX5_takeNumber_59 (fun H locs hB => ?_)
        have hB : Bx B0 D _ [(w, .inr (5, [.ref f1492_0, .int (nI ((κ w).2.2.1)), .int (nI f1492_2), .int (nI f1492_3), .int f1492_4, .int (nI f1492_5), .int f1492_6, .int f1492_6, .int (nI f1492_5), .ref f1492_9, .int (nI f1492_10), f1492_11, .int f1492_12, .int f1492_13]))] [w] _ _ := hB
        have hT : WT B0 D cs T κ _ := hT.close hB ⟨⟨0, _, rfl, ok_6 hw.1 ⟨_, _, _, _, _, _, _, _, _, _, _, _, _, rfl, (by omega), (by omega), (by omega), (by omega), (by omega), t1492_0, t1492_9, c1492_11, c1492_p2⟩⟩, trivial⟩
        have hF : Fr B0 [10] κ H0 _ := hF.close hB (fa_c (by simp [hw.2]) fa_n)
        have hL : OkL B0 _ := hB.2.2.2.2.2
        have hP : va_P D vwCl [(w, .inr (5, [.ref f1492_0, .int (nI ((κ w).2.2.1)), .int (nI f1492_2), .int (nI f1492_3), .int f1492_4, .int (nI f1492_5), .int f1492_6, .int f1492_6, .int (nI f1492_5), .ref f1492_9, .int (nI f1492_10), f1492_11, .int f1492_12, .int f1492_13]))] _ := hB.1
        have hfi : FI D w 5 7 (.int f1492_6) _ := ⟨_, hP 0 _ rfl, rfl⟩
        refine lv_aload_n hx hb dX5_takeNumber_62 rfl (lv_at hl 0 rfl) ?_
        refine cv_v (As := []) (rest := []) (b := w) ⟨hx, hb, hml, hown, hts⟩ (c_X5_step hT (w := w) hw) (cwV 0 hts gX5_takeNumber_X5_step rfl rfl rfl hdX5_step_v ⟨Nat.le_of_ble_eq_true rfl, Nat.le_of_ble_eq_true rfl⟩) hN hE hL (rcv6 hN hT hw.1) rfl rfl hl.1 (Nat.le_of_ble_eq_true rfl) dX5_takeNumber_63 (Nat.zero_le _) (Nat.zero_le _) (fun H1 locs hL hqr1497 => ?_)
        obtain ⟨hT1, hF1, hqr1497⟩ := hqr1497
        have hF := hF.tr (hF1.mono (by simp))
        have hT := hT1
        have f1498 := hqr1497
        have hfi := f1498 _ hfi
        refine lv_iconst (v := 1) hx hb dX5_takeNumber_66 (by decide) ?_
        exact en_i hx hb hr hlocks hL rfl (Nat.zero_le _) (Nat.zero_le _) dX5_takeNumber_67 (⟨hT, hF, Or.inr ⟨rfl, f1492_6, c1494, (Int32.not_lt.mpr c1496), hfi⟩⟩)
      · refine lv_aload_n hx hb dX5_takeNumber_35 rfl (lv_at hl 0 rfl) ?_
        refine lv_bipush (v := (-3)) hx hb dX5_takeNumber_36 (by decide) ?_
        refine lv_aload_n hx hb dX5_takeNumber_38 rfl (lv_at hl 0 rfl) ?_
        refine va_get (D := D) (ci := 5) (v := .int (nI f1492_5)) (C := RX5) (T := TX5) (N := 14) hx hb hts iX5_takeNumber_5 hown hN.1 hP 0 rfl rfl 5 (by decide) (hts _ mX5_takeNumber_2) (fun _ h9 => h9) rfl dX5_takeNumber_39 ?_
        refine cv_i (As := [.int (-3), .int (nI f1492_5)]) (rest := []) (b := w) ⟨hx, hb, hml, hown, hts⟩ (c_X5_fail hT (w := w) hw (x := (-3)) (y := (nI f1492_5))) (cwV 2 hts gX5_takeNumber_X5_fail rfl rfl rfl hdX5_fail_v ⟨Nat.le_of_ble_eq_true rfl, Nat.le_of_ble_eq_true rfl⟩) hN hE hL (rcv6 hN hT hw.1) rfl rfl hl.1 (Nat.le_of_ble_eq_true rfl) dX5_takeNumber_42 (Nat.zero_le _) (Nat.zero_le _) (fun r1499 H1 locs hL hqr1499 => ?_)
        obtain ⟨hT1, hF1, hqr1499⟩ := hqr1499
        have hF := hF.tr (hF1.mono (by simp))
        have hT := hT1
        obtain rfl := hqr1499
        exact en_i hx hb hr hlocks hL rfl (Nat.zero_le _) (Nat.zero_le _) dX5_takeNumber_45 (⟨hT, hF, Or.inl rfl⟩)
  · refine lv_aload_n hx hb dX5_takeNumber_8 rfl (lv_at hl 0 rfl) ?_
    refine lv_bipush (v := (-2)) hx hb dX5_takeNumber_9 (by decide) ?_
    refine lv_aload_n hx hb dX5_takeNumber_11 rfl (lv_at hl 0 rfl) ?_
    refine va_get (D := D) (ci := 5) (v := .int (nI f1492_5)) (C := RX5) (T := TX5) (N := 14) hx hb hts iX5_takeNumber_5 hown hN.1 hP 0 rfl rfl 5 (by decide) (hts _ mX5_takeNumber_2) (fun _ h9 => h9) rfl dX5_takeNumber_12 ?_
    refine cv_i (As := [.int (-2), .int (nI f1492_5)]) (rest := []) (b := w) ⟨hx, hb, hml, hown, hts⟩ (c_X5_fail hT (w := w) hw (x := (-2)) (y := (nI f1492_5))) (cwV 2 hts gX5_takeNumber_X5_fail rfl rfl rfl hdX5_fail_v ⟨Nat.le_of_ble_eq_true rfl, Nat.le_of_ble_eq_true rfl⟩) hN hE hL (rcv6 hN hT hw.1) rfl rfl hl.1 (Nat.le_of_ble_eq_true rfl) dX5_takeNumber_15 (Nat.zero_le _) (Nat.zero_le _) (fun r1500 H1 locs hL hqr1500 => ?_)
    obtain ⟨hT1, hF1, hqr1500⟩ := hqr1500
    have hF := hF.tr (hF1.mono (by simp))
    have hT := hT1
    obtain rfl := hqr1500
    exact en_i hx hb hr hlocks hL rfl (Nat.zero_le _) (Nat.zero_le _) dX5_takeNumber_18 (⟨hT, hF, Or.inl rfl⟩)
theorem mX5_takeSigned_1 : (.fieldLink RX5 124 "OneBeat$Reader" "start" "I" : Cond) ∈ wsX5_takeSigned := List.mem_of_getElem? (i := 1) (by decide +kernel)
theorem iX5_takeSigned_5 : ∀ w ∈ wsX50, w ∈ wsX5_takeSigned := fun w h => List.mem_of_mem_drop (List.mem_of_mem_take ((show wsX50 = (wsX5_takeSigned.drop 24).take 14 by decide +kernel) ▸ h))
theorem mX5_takeSigned_2 : (.fieldLink RX5 73 "OneBeat$Reader" "kind" "I" : Cond) ∈ wsX5_takeSigned := List.mem_of_getElem? (i := 2) (by decide +kernel)
theorem mX5_takeSigned_3 : (.fieldLink RX5 175 "OneBeat$Reader" "value" "I" : Cond) ∈ wsX5_takeSigned := List.mem_of_getElem? (i := 3) (by decide +kernel)
theorem mX5_takeSigned_4 : (.fieldLink RX5 59 "OneBeat$Reader" "taken" "I" : Cond) ∈ wsX5_takeSigned := List.mem_of_getElem? (i := 4) (by decide +kernel)
set_option maxHeartbeats 4000000 in
set_option maxRecDepth 100000 in
theorem c_X5_takeSigned {l : Launch} {D : va_G} {cs : Nat → ClassId} {B0 T : Nat} {κ : KM} {H0 : Heap} (hT : WT B0 D cs T κ H0) {w : Nat} (hw : T2 κ w 6 10) {x : Int32} : KC l yX5_takeSigned wsX5_takeSigned 1 22 0 0 D cs B0 H0 [.ref w, .int x] (Qi (fun r H => WT B0 D cs T κ H ∧ Fr B0 [10] κ H0 H ∧ (r = 0 ∨ r = 1))) := by
  refine KC.of cX5_takeSigned 4 (some .boolean) (by decide) rfl (Nat.le_of_ble_eq_true rfl) ?_
  intro p e s m below meth c ls hx hb hr hml hown hts hlocks hin hN hE hH0 hl
  have hown : s.vm.findClass RX5 = some m.cls := hown
  have hl : lv_has ls 4 [(0, .ref w), (1, .int x)] := hl
  have hL : OkL B0 [] := OkL.nil
  have hF : Fr B0 [10] κ H0 H0 := Fr.rf
  refine lv_aload_n hx hb dX5_takeSigned_0 rfl (lv_at hl 0 rfl) ?_
  refine lv_bipush (v := 45) hx hb dX5_takeSigned_1 (by decide) ?_
  refine cv_i (As := [.int 45]) (rest := []) (b := w) ⟨hx, hb, hml, hown, hts⟩ (c_X5_isMark hT (w := w) hw (x := 45)) (cwV 1 hts gX5_takeSigned_X5_isMark rfl rfl rfl hdX5_isMark_v ⟨Nat.le_of_ble_eq_true rfl, Nat.le_of_ble_eq_true rfl⟩) hN hE hL (rcv6 hN hT hw.1) rfl rfl hl.1 (Nat.le_of_ble_eq_true rfl) dX5_takeSigned_3 (Nat.zero_le _) (Nat.zero_le _) (fun r1501 H1 locs hL hqr1501 => ?_)
  obtain ⟨h9, hqr1501⟩ := hqr1501; replace h9 := h9.symm; subst h9
  rcases hqr1501 with rfl | rfl
  · refine lv_istore_n (lv' := [(2, .int 0), (0, .ref w), (1, .int x)]) hx hb dX5_takeSigned_6 rfl hl (by decide) rfl (fun ls hl => ?_)
    refine lv_aload_n hx hb dX5_takeSigned_7 rfl (lv_at hl 1 rfl) ?_
    obtain ⟨hb1502, e1502, hat1502, hk1502⟩ := hT.o6 hw.1
    obtain ⟨f1502_0, f1502_2, f1502_3, f1502_4, f1502_5, f1502_6, f1502_7, f1502_8, f1502_9, f1502_10, f1502_11, f1502_12, f1502_13, rfl, c1502_1, c1502_2, c1502_3, c1502_5, c1502_10, t1502_0, t1502_9, c1502_11, c1502_p2⟩ := hk1502
    have hP : va_P D vwCl [(w, .inr (5, [.ref f1502_0, .int (nI ((κ w).2.2.1)), .int (nI f1502_2), .int (nI f1502_3), .int f1502_4, .int (nI f1502_5), .int f1502_6, .int f1502_7, .int f1502_8, .ref f1502_9, .int (nI f1502_10), f1502_11, .int f1502_12, .int f1502_13]))] _ := va_P.cons hat1502 va_P.nil
    refine va_get (D := D) (ci := 5) (v := .int (nI f1502_5)) (C := RX5) (T := TX5) (N := 14) hx hb hts iX5_takeSigned_5 hown hN.1 hP 0 rfl rfl 5 (by decide) (hts _ mX5_takeSigned_1) (fun _ h9 => h9) rfl dX5_takeSigned_8 ?_
    refine lv_istore_n (lv' := [(3, .int (nI f1502_5)), (2, .int 0), (0, .ref w), (1, .int x)]) hx hb dX5_takeSigned_11 rfl hl (by decide) rfl (fun ls hl => ?_)
    refine lv_iload_n hx hb dX5_takeSigned_12 rfl (lv_at hl 1 rfl) ?_
    refine lv_if_eq (tgt := 20) hx hb dX5_takeSigned_13 (by decide) (fun _ => ?_) (fun c9 => absurd (by decide) c9)
    refine lv_aload_n hx hb dX5_takeSigned_20 rfl (lv_at hl 2 rfl) ?_
    refine va_get (D := D) (ci := 5) (v := .int f1502_4) (C := RX5) (T := TX5) (N := 14) hx hb hts iX5_takeSigned_5 hown hN.1 hP 0 rfl rfl 4 (by decide) (hts _ mX5_takeSigned_2) (fun _ h9 => h9) rfl dX5_takeSigned_21 ?_
    refine lv_iconst (v := 1) hx hb dX5_takeSigned_24 (by decide) ?_
    refine lv_icmp_eq (tgt := 39) hx hb dX5_takeSigned_25 (by decide) (fun c1503 => ?_) (fun c1503 => ?_)
    · refine lv_aload_n hx hb dX5_takeSigned_39 rfl (lv_at hl 2 rfl) ?_
      refine va_get (D := D) (ci := 5) (v := .int f1502_6) (C := RX5) (T := TX5) (N := 14) hx hb hts iX5_takeSigned_5 hown hN.1 hP 0 rfl rfl 6 (by decide) (hts _ mX5_takeSigned_3) (fun _ h9 => h9) rfl dX5_takeSigned_40 ?_
      refine lv_iload_n hx hb dX5_takeSigned_43 rfl (lv_at hl 3 rfl) ?_
      refine lv_icmp_le (tgt := 55) hx hb dX5_takeSigned_44 (by decide) (fun c1504 => ?_) (fun c1504 => ?_)
      · refine lv_aload_n hx hb dX5_takeSigned_55 rfl (lv_at hl 2 rfl) ?_
        refine lv_iload_n hx hb dX5_takeSigned_56 rfl (lv_at hl 1 rfl) ?_
        refine lv_if_eq (tgt := 68) hx hb dX5_takeSigned_57 (by decide) (fun _ => ?_) (fun c9 => absurd (by decide) c9)
        refine lv_aload_n hx hb dX5_takeSigned_68 rfl (lv_at hl 2 rfl) ?_
        refine va_get (D := D) (ci := 5) (v := .int f1502_6) (C := RX5) (T := TX5) (N := 14) hx hb hts iX5_takeSigned_5 hown hN.1 hP 0 rfl rfl 6 (by decide) (hts _ mX5_takeSigned_3) (fun _ h9 => h9) rfl dX5_takeSigned_69 ?_
        have hB : Bx B0 D _ [(w, .inr (5, [.ref f1502_0, .int (nI ((κ w).2.2.1)), .int (nI f1502_2), .int (nI f1502_3), .int f1502_4, .int (nI f1502_5), .int f1502_6, .int f1502_7, .int f1502_8, .ref f1502_9, .int (nI f1502_10), f1502_11, .int f1502_12, .int f1502_13]))] [] _ _ := Bx.of (fun a => (κ a).1) hL hP (fa_c hb1502 fa_n) (by simp only [List.map_cons, List.map_nil, hw.1]; decide)
        refine b_put (D := D) (ci := 5) (v := .int f1502_6) (ty := .int) (C := RX5) (T := TX5) (N := 14) hx hb hts iX5_takeSigned_5 tyX5 tyX5_ok nmX5 hown hN hB 0 rfl rfl 7 (by decide) (hts _ mX5_takeSigned_4) (fun _ h9 => h9) rfl (by decide +kernel) rfl rfl (Nat.le_of_ble_eq_true rfl) (.inl rfl) dX5_takeSigned_72 (fun H locs hB => ?_)
        have hB : Bx B0 D _ [(w, .inr (5, [.ref f1502_0, .int (nI ((κ w).2.2.1)), .int (nI f1502_2), .int (nI f1502_3), .int f1502_4, .int (nI f1502_5), .int f1502_6, .int f1502_6, .int f1502_8, .ref f1502_9, .int (nI f1502_10), f1502_11, .int f1502_12, .int f1502_13]))] [w] _ _ := hB
        refine lv_aload_n hx hb dX5_takeSigned_75 rfl (lv_at hl 2 rfl) ?_
        have hT : WT B0 D cs T κ _ := hT.close hB ⟨⟨0, _, rfl, ok_6 hw.1 ⟨_, _, _, _, _, _, _, _, _, _, _, _, _, rfl, (by omega), (by omega), (by omega), (by omega), (by omega), t1502_0, t1502_9, c1502_11, c1502_p2⟩⟩, trivial⟩
        have hF : Fr B0 [10] κ H0 _ := hF.close hB (fa_c (by simp [hw.2]) fa_n)
        have hL : OkL B0 _ := hB.2.2.2.2.2
        have hP : va_P D vwCl [(w, .inr (5, [.ref f1502_0, .int (nI ((κ w).2.2.1)), .int (nI f1502_2), .int (nI f1502_3), .int f1502_4, .int (nI f1502_5), .int f1502_6, .int f1502_6, .int f1502_8, .ref f1502_9, .int (nI f1502_10), f1502_11, .int f1502_12, .int f1502_13]))] _ := hB.1
        refine cv_v (As := []) (rest := []) (b := w) ⟨hx, hb, hml, hown, hts⟩ (c_X5_step hT (w := w) hw) (cwV 0 hts gX5_takeSigned_X5_step rfl rfl rfl hdX5_step_v ⟨Nat.le_of_ble_eq_true rfl, Nat.le_of_ble_eq_true rfl⟩) hN hE hL (rcv6 hN hT hw.1) rfl rfl hl.1 (Nat.le_of_ble_eq_true rfl) dX5_takeSigned_76 (Nat.zero_le _) (Nat.zero_le _) (fun H1 locs hL hqr1505 => ?_)
        obtain ⟨hT1, hF1, hqr1505⟩ := hqr1505
        have hF := hF.tr (hF1.mono (by simp))
        have hT := hT1
        have f1506 := hqr1505
        refine lv_iconst (v := 1) hx hb dX5_takeSigned_79 (by decide) ?_
        exact en_i hx hb hr hlocks hL rfl (Nat.zero_le _) (Nat.zero_le _) dX5_takeSigned_80 (⟨hT, hF, Or.inr rfl⟩)
      · refine lv_aload_n hx hb dX5_takeSigned_47 rfl (lv_at hl 2 rfl) ?_
        refine lv_bipush (v := (-3)) hx hb dX5_takeSigned_48 (by decide) ?_
        refine lv_iload_n hx hb dX5_takeSigned_50 rfl (lv_at hl 0 rfl) ?_
        refine cv_i (As := [.int (-3), .int (nI f1502_5)]) (rest := []) (b := w) ⟨hx, hb, hml, hown, hts⟩ (c_X5_fail hT (w := w) hw (x := (-3)) (y := (nI f1502_5))) (cwV 2 hts gX5_takeSigned_X5_fail rfl rfl rfl hdX5_fail_v ⟨Nat.le_of_ble_eq_true rfl, Nat.le_of_ble_eq_true rfl⟩) hN hE hL (rcv6 hN hT hw.1) rfl rfl hl.1 (Nat.le_of_ble_eq_true rfl) dX5_takeSigned_51 (Nat.zero_le _) (Nat.zero_le _) (fun r1507 H1 locs hL hqr1507 => ?_)
        obtain ⟨hT1, hF1, hqr1507⟩ := hqr1507
        have hF := hF.tr (hF1.mono (by simp))
        have hT := hT1
        obtain rfl := hqr1507
        exact en_i hx hb hr hlocks hL rfl (Nat.zero_le _) (Nat.zero_le _) dX5_takeSigned_54 (⟨hT, hF, Or.inl rfl⟩)
    · refine lv_aload_n hx hb dX5_takeSigned_28 rfl (lv_at hl 2 rfl) ?_
      refine lv_bipush (v := (-2)) hx hb dX5_takeSigned_29 (by decide) ?_
      refine lv_aload_n hx hb dX5_takeSigned_31 rfl (lv_at hl 2 rfl) ?_
      refine va_get (D := D) (ci := 5) (v := .int (nI f1502_5)) (C := RX5) (T := TX5) (N := 14) hx hb hts iX5_takeSigned_5 hown hN.1 hP 0 rfl rfl 5 (by decide) (hts _ mX5_takeSigned_1) (fun _ h9 => h9) rfl dX5_takeSigned_32 ?_
      refine cv_i (As := [.int (-2), .int (nI f1502_5)]) (rest := []) (b := w) ⟨hx, hb, hml, hown, hts⟩ (c_X5_fail hT (w := w) hw (x := (-2)) (y := (nI f1502_5))) (cwV 2 hts gX5_takeSigned_X5_fail rfl rfl rfl hdX5_fail_v ⟨Nat.le_of_ble_eq_true rfl, Nat.le_of_ble_eq_true rfl⟩) hN hE hL (rcv6 hN hT hw.1) rfl rfl hl.1 (Nat.le_of_ble_eq_true rfl) dX5_takeSigned_35 (Nat.zero_le _) (Nat.zero_le _) (fun r1508 H1 locs hL hqr1508 => ?_)
      obtain ⟨hT1, hF1, hqr1508⟩ := hqr1508
      have hF := hF.tr (hF1.mono (by simp))
      have hT := hT1
      obtain rfl := hqr1508
      exact en_i hx hb hr hlocks hL rfl (Nat.zero_le _) (Nat.zero_le _) dX5_takeSigned_38 (⟨hT, hF, Or.inl rfl⟩)
  · refine lv_istore_n (lv' := [(2, .int 1), (0, .ref w), (1, .int x)]) hx hb dX5_takeSigned_6 rfl hl (by decide) rfl (fun ls hl => ?_)
    refine lv_aload_n hx hb dX5_takeSigned_7 rfl (lv_at hl 1 rfl) ?_
    obtain ⟨hb1509, e1509, hat1509, hk1509⟩ := hT.o6 hw.1
    obtain ⟨f1509_0, f1509_2, f1509_3, f1509_4, f1509_5, f1509_6, f1509_7, f1509_8, f1509_9, f1509_10, f1509_11, f1509_12, f1509_13, rfl, c1509_1, c1509_2, c1509_3, c1509_5, c1509_10, t1509_0, t1509_9, c1509_11, c1509_p2⟩ := hk1509
    have hP : va_P D vwCl [(w, .inr (5, [.ref f1509_0, .int (nI ((κ w).2.2.1)), .int (nI f1509_2), .int (nI f1509_3), .int f1509_4, .int (nI f1509_5), .int f1509_6, .int f1509_7, .int f1509_8, .ref f1509_9, .int (nI f1509_10), f1509_11, .int f1509_12, .int f1509_13]))] _ := va_P.cons hat1509 va_P.nil
    refine va_get (D := D) (ci := 5) (v := .int (nI f1509_5)) (C := RX5) (T := TX5) (N := 14) hx hb hts iX5_takeSigned_5 hown hN.1 hP 0 rfl rfl 5 (by decide) (hts _ mX5_takeSigned_1) (fun _ h9 => h9) rfl dX5_takeSigned_8 ?_
    refine lv_istore_n (lv' := [(3, .int (nI f1509_5)), (2, .int 1), (0, .ref w), (1, .int x)]) hx hb dX5_takeSigned_11 rfl hl (by decide) rfl (fun ls hl => ?_)
    refine lv_iload_n hx hb dX5_takeSigned_12 rfl (lv_at hl 1 rfl) ?_
    refine lv_if_eq (tgt := 20) hx hb dX5_takeSigned_13 (by decide) (fun c9 => absurd c9 (by decide)) (fun _ => ?_)
    refine lv_aload_n hx hb dX5_takeSigned_16 rfl (lv_at hl 2 rfl) ?_
    refine cv_v (As := []) (rest := []) (b := w) ⟨hx, hb, hml, hown, hts⟩ (c_X5_step hT (w := w) hw) (cwV 0 hts gX5_takeSigned_X5_step rfl rfl rfl hdX5_step_v ⟨Nat.le_of_ble_eq_true rfl, Nat.le_of_ble_eq_true rfl⟩) hN hE hL (rcv6 hN hT hw.1) rfl rfl hl.1 (Nat.le_of_ble_eq_true rfl) dX5_takeSigned_17 (Nat.zero_le _) (Nat.zero_le _) (fun H1 locs hL hqr1510 => ?_)
    obtain ⟨hT1, hF1, hqr1510⟩ := hqr1510
    have hF := hF.tr (hF1.mono (by simp))
    have hT := hT1
    have f1511 := hqr1510
    refine lv_aload_n hx hb dX5_takeSigned_20 rfl (lv_at hl 2 rfl) ?_
    obtain ⟨hb1512, e1512, hat1512, hk1512⟩ := hT.o6 hw.1
    obtain ⟨f1512_0, f1512_2, f1512_3, f1512_4, f1512_5, f1512_6, f1512_7, f1512_8, f1512_9, f1512_10, f1512_11, f1512_12, f1512_13, rfl, c1512_1, c1512_2, c1512_3, c1512_5, c1512_10, t1512_0, t1512_9, c1512_11, c1512_p2⟩ := hk1512
    have hP : va_P D vwCl [(w, .inr (5, [.ref f1512_0, .int (nI ((κ w).2.2.1)), .int (nI f1512_2), .int (nI f1512_3), .int f1512_4, .int (nI f1512_5), .int f1512_6, .int f1512_7, .int f1512_8, .ref f1512_9, .int (nI f1512_10), f1512_11, .int f1512_12, .int f1512_13]))] _ := va_P.cons hat1512 va_P.nil
    refine va_get (D := D) (ci := 5) (v := .int f1512_4) (C := RX5) (T := TX5) (N := 14) hx hb hts iX5_takeSigned_5 hown hN.1 hP 0 rfl rfl 4 (by decide) (hts _ mX5_takeSigned_2) (fun _ h9 => h9) rfl dX5_takeSigned_21 ?_
    refine lv_iconst (v := 1) hx hb dX5_takeSigned_24 (by decide) ?_
    refine lv_icmp_eq (tgt := 39) hx hb dX5_takeSigned_25 (by decide) (fun c1513 => ?_) (fun c1513 => ?_)
    · refine lv_aload_n hx hb dX5_takeSigned_39 rfl (lv_at hl 2 rfl) ?_
      refine va_get (D := D) (ci := 5) (v := .int f1512_6) (C := RX5) (T := TX5) (N := 14) hx hb hts iX5_takeSigned_5 hown hN.1 hP 0 rfl rfl 6 (by decide) (hts _ mX5_takeSigned_3) (fun _ h9 => h9) rfl dX5_takeSigned_40 ?_
      refine lv_iload_n hx hb dX5_takeSigned_43 rfl (lv_at hl 3 rfl) ?_
      refine lv_icmp_le (tgt := 55) hx hb dX5_takeSigned_44 (by decide) (fun c1514 => ?_) (fun c1514 => ?_)
      · refine lv_aload_n hx hb dX5_takeSigned_55 rfl (lv_at hl 2 rfl) ?_
        refine lv_iload_n hx hb dX5_takeSigned_56 rfl (lv_at hl 1 rfl) ?_
        refine lv_if_eq (tgt := 68) hx hb dX5_takeSigned_57 (by decide) (fun c9 => absurd c9 (by decide)) (fun _ => ?_)
        refine lv_aload_n hx hb dX5_takeSigned_60 rfl (lv_at hl 2 rfl) ?_
        refine va_get (D := D) (ci := 5) (v := .int f1512_6) (C := RX5) (T := TX5) (N := 14) hx hb hts iX5_takeSigned_5 hown hN.1 hP 0 rfl rfl 6 (by decide) (hts _ mX5_takeSigned_3) (fun _ h9 => h9) rfl dX5_takeSigned_61 ?_
        refine lv_ineg hx hb dX5_takeSigned_64 ?_
        refine gn_i (fun x1515 => ?_)
        refine lv_goto (tgt := 72) hx hb dX5_takeSigned_65 (by decide) ?_
        have hB : Bx B0 D _ [(w, .inr (5, [.ref f1512_0, .int (nI ((κ w).2.2.1)), .int (nI f1512_2), .int (nI f1512_3), .int f1512_4, .int (nI f1512_5), .int f1512_6, .int f1512_7, .int f1512_8, .ref f1512_9, .int (nI f1512_10), f1512_11, .int f1512_12, .int f1512_13]))] [] _ _ := Bx.of (fun a => (κ a).1) hL hP (fa_c hb1512 fa_n) (by simp only [List.map_cons, List.map_nil, hw.1]; decide)
        refine b_put (D := D) (ci := 5) (v := .int x1515) (ty := .int) (C := RX5) (T := TX5) (N := 14) hx hb hts iX5_takeSigned_5 tyX5 tyX5_ok nmX5 hown hN hB 0 rfl rfl 7 (by decide) (hts _ mX5_takeSigned_4) (fun _ h9 => h9) rfl (by decide +kernel) rfl rfl (Nat.le_of_ble_eq_true rfl) (.inl rfl) dX5_takeSigned_72 (fun H locs hB => ?_)
        have hB : Bx B0 D _ [(w, .inr (5, [.ref f1512_0, .int (nI ((κ w).2.2.1)), .int (nI f1512_2), .int (nI f1512_3), .int f1512_4, .int (nI f1512_5), .int f1512_6, .int x1515, .int f1512_8, .ref f1512_9, .int (nI f1512_10), f1512_11, .int f1512_12, .int f1512_13]))] [w] _ _ := hB
        refine lv_aload_n hx hb dX5_takeSigned_75 rfl (lv_at hl 2 rfl) ?_
        have hT : WT B0 D cs T κ _ := hT.close hB ⟨⟨0, _, rfl, ok_6 hw.1 ⟨_, _, _, _, _, _, _, _, _, _, _, _, _, rfl, (by omega), (by omega), (by omega), (by omega), (by omega), t1512_0, t1512_9, c1512_11, c1512_p2⟩⟩, trivial⟩
        have hF : Fr B0 [10] κ H0 _ := hF.close hB (fa_c (by simp [hw.2]) fa_n)
        have hL : OkL B0 _ := hB.2.2.2.2.2
        have hP : va_P D vwCl [(w, .inr (5, [.ref f1512_0, .int (nI ((κ w).2.2.1)), .int (nI f1512_2), .int (nI f1512_3), .int f1512_4, .int (nI f1512_5), .int f1512_6, .int x1515, .int f1512_8, .ref f1512_9, .int (nI f1512_10), f1512_11, .int f1512_12, .int f1512_13]))] _ := hB.1
        refine cv_v (As := []) (rest := []) (b := w) ⟨hx, hb, hml, hown, hts⟩ (c_X5_step hT (w := w) hw) (cwV 0 hts gX5_takeSigned_X5_step rfl rfl rfl hdX5_step_v ⟨Nat.le_of_ble_eq_true rfl, Nat.le_of_ble_eq_true rfl⟩) hN hE hL (rcv6 hN hT hw.1) rfl rfl hl.1 (Nat.le_of_ble_eq_true rfl) dX5_takeSigned_76 (Nat.zero_le _) (Nat.zero_le _) (fun H1 locs hL hqr1516 => ?_)
        obtain ⟨hT1, hF1, hqr1516⟩ := hqr1516
        have hF := hF.tr (hF1.mono (by simp))
        have hT := hT1
        have f1517 := hqr1516
        refine lv_iconst (v := 1) hx hb dX5_takeSigned_79 (by decide) ?_
        exact en_i hx hb hr hlocks hL rfl (Nat.zero_le _) (Nat.zero_le _) dX5_takeSigned_80 (⟨hT, hF, Or.inr rfl⟩)
      · refine lv_aload_n hx hb dX5_takeSigned_47 rfl (lv_at hl 2 rfl) ?_
        refine lv_bipush (v := (-3)) hx hb dX5_takeSigned_48 (by decide) ?_
        refine lv_iload_n hx hb dX5_takeSigned_50 rfl (lv_at hl 0 rfl) ?_
        refine cv_i (As := [.int (-3), .int (nI f1509_5)]) (rest := []) (b := w) ⟨hx, hb, hml, hown, hts⟩ (c_X5_fail hT (w := w) hw (x := (-3)) (y := (nI f1509_5))) (cwV 2 hts gX5_takeSigned_X5_fail rfl rfl rfl hdX5_fail_v ⟨Nat.le_of_ble_eq_true rfl, Nat.le_of_ble_eq_true rfl⟩) hN hE hL (rcv6 hN hT hw.1) rfl rfl hl.1 (Nat.le_of_ble_eq_true rfl) dX5_takeSigned_51 (Nat.zero_le _) (Nat.zero_le _) (fun r1518 H1 locs hL hqr1518 => ?_)
        obtain ⟨hT1, hF1, hqr1518⟩ := hqr1518
        have hF := hF.tr (hF1.mono (by simp))
        have hT := hT1
        obtain rfl := hqr1518
        exact en_i hx hb hr hlocks hL rfl (Nat.zero_le _) (Nat.zero_le _) dX5_takeSigned_54 (⟨hT, hF, Or.inl rfl⟩)
    · refine lv_aload_n hx hb dX5_takeSigned_28 rfl (lv_at hl 2 rfl) ?_
      refine lv_bipush (v := (-2)) hx hb dX5_takeSigned_29 (by decide) ?_
      refine lv_aload_n hx hb dX5_takeSigned_31 rfl (lv_at hl 2 rfl) ?_
      refine va_get (D := D) (ci := 5) (v := .int (nI f1512_5)) (C := RX5) (T := TX5) (N := 14) hx hb hts iX5_takeSigned_5 hown hN.1 hP 0 rfl rfl 5 (by decide) (hts _ mX5_takeSigned_1) (fun _ h9 => h9) rfl dX5_takeSigned_32 ?_
      refine cv_i (As := [.int (-2), .int (nI f1512_5)]) (rest := []) (b := w) ⟨hx, hb, hml, hown, hts⟩ (c_X5_fail hT (w := w) hw (x := (-2)) (y := (nI f1512_5))) (cwV 2 hts gX5_takeSigned_X5_fail rfl rfl rfl hdX5_fail_v ⟨Nat.le_of_ble_eq_true rfl, Nat.le_of_ble_eq_true rfl⟩) hN hE hL (rcv6 hN hT hw.1) rfl rfl hl.1 (Nat.le_of_ble_eq_true rfl) dX5_takeSigned_35 (Nat.zero_le _) (Nat.zero_le _) (fun r1519 H1 locs hL hqr1519 => ?_)
      obtain ⟨hT1, hF1, hqr1519⟩ := hqr1519
      have hF := hF.tr (hF1.mono (by simp))
      have hT := hT1
      obtain rfl := hqr1519
      exact en_i hx hb hr hlocks hL rfl (Nat.zero_le _) (Nat.zero_le _) dX5_takeSigned_38 (⟨hT, hF, Or.inl rfl⟩)
set_option maxHeartbeats 4000000 in
set_option maxRecDepth 100000 in
theorem c_X5_codeOfWord {l : Launch} {D : va_G} {cs : Nat → ClassId} {B0 T : Nat} {κ : KM} {H0 : Heap} (hT : WT B0 D cs T κ H0) {w : Nat} (hw : T2 κ w 6 10) : KC l yX5_codeOfWord wsX5_codeOfWord 5 107 0 0 D cs B0 H0 [.ref w] (Qi (fun _ H => H = H0)) := by
  refine KC.of cX5_codeOfWord 1 (some .int) (by decide) rfl (Nat.le_of_ble_eq_true rfl) ?_
  intro p e s m below meth c ls hx hb hr hml hown hts hlocks hin hN hE hH0 hl
  have hown : s.vm.findClass RX5 = some m.cls := hown
  have hl : lv_has ls 1 [(0, .ref w)] := hl
  have hL : OkL B0 [] := OkL.nil
  refine lv_aload_n hx hb dX5_codeOfWord_0 rfl (lv_at hl 0 rfl) ?_
  refine va_ldcS hx hb hown (hN.s 1 rfl) dX5_codeOfWord_1 ?_
  refine cv_i (As := [.ref (cs 101)]) (rest := []) (b := w) ⟨hx, hb, hml, hown, hts⟩ (c_X5_isWord hT (w := w) hw (i := 1) (by decide)) (cwV 1 hts gX5_codeOfWord_X5_isWord rfl rfl rfl hdX5_isWord_v ⟨Nat.le_of_ble_eq_true rfl, Nat.le_of_ble_eq_true rfl⟩) hN hE hL (rcv6 hN hT hw.1) rfl rfl hl.1 (Nat.le_of_ble_eq_true rfl) dX5_codeOfWord_3 (Nat.zero_le _) (Nat.zero_le _) (fun r1520 H1 locs hL hqr1520 => ?_)
  obtain ⟨h9, hqr1520⟩ := hqr1520; replace h9 := h9.symm; subst h9
  rcases hqr1520 with rfl | rfl
  · refine lv_if_eq (tgt := 11) hx hb dX5_codeOfWord_6 (by decide) (fun _ => ?_) (fun c9 => absurd (by decide) c9)
    refine lv_aload_n hx hb dX5_codeOfWord_11 rfl (lv_at hl 0 rfl) ?_
    refine va_ldcS hx hb hown (hN.s 7 rfl) dX5_codeOfWord_12 ?_
    refine cv_i (As := [.ref (cs 107)]) (rest := []) (b := w) ⟨hx, hb, hml, hown, hts⟩ (c_X5_isWord hT (w := w) hw (i := 7) (by decide)) (cwV 1 hts gX5_codeOfWord_X5_isWord rfl rfl rfl hdX5_isWord_v ⟨Nat.le_of_ble_eq_true rfl, Nat.le_of_ble_eq_true rfl⟩) hN hE hL (rcv6 hN hT hw.1) rfl rfl hl.1 (Nat.le_of_ble_eq_true rfl) dX5_codeOfWord_14 (Nat.zero_le _) (Nat.zero_le _) (fun r1521 H1 locs hL hqr1521 => ?_)
    obtain ⟨h9, hqr1521⟩ := hqr1521; replace h9 := h9.symm; subst h9
    rcases hqr1521 with rfl | rfl
    · refine lv_if_eq (tgt := 23) hx hb dX5_codeOfWord_17 (by decide) (fun _ => ?_) (fun c9 => absurd (by decide) c9)
      refine lv_aload_n hx hb dX5_codeOfWord_23 rfl (lv_at hl 0 rfl) ?_
      refine va_ldcS hx hb hown (hN.s 8 rfl) dX5_codeOfWord_24 ?_
      refine cv_i (As := [.ref (cs 108)]) (rest := []) (b := w) ⟨hx, hb, hml, hown, hts⟩ (c_X5_isWord hT (w := w) hw (i := 8) (by decide)) (cwV 1 hts gX5_codeOfWord_X5_isWord rfl rfl rfl hdX5_isWord_v ⟨Nat.le_of_ble_eq_true rfl, Nat.le_of_ble_eq_true rfl⟩) hN hE hL (rcv6 hN hT hw.1) rfl rfl hl.1 (Nat.le_of_ble_eq_true rfl) dX5_codeOfWord_26 (Nat.zero_le _) (Nat.zero_le _) (fun r1522 H1 locs hL hqr1522 => ?_)
      obtain ⟨h9, hqr1522⟩ := hqr1522; replace h9 := h9.symm; subst h9
      rcases hqr1522 with rfl | rfl
      · refine lv_if_eq (tgt := 35) hx hb dX5_codeOfWord_29 (by decide) (fun _ => ?_) (fun c9 => absurd (by decide) c9)
        refine lv_aload_n hx hb dX5_codeOfWord_35 rfl (lv_at hl 0 rfl) ?_
        refine va_ldcS hx hb hown (hN.s 9 rfl) dX5_codeOfWord_36 ?_
        refine cv_i (As := [.ref (cs 109)]) (rest := []) (b := w) ⟨hx, hb, hml, hown, hts⟩ (c_X5_isWord hT (w := w) hw (i := 9) (by decide)) (cwV 1 hts gX5_codeOfWord_X5_isWord rfl rfl rfl hdX5_isWord_v ⟨Nat.le_of_ble_eq_true rfl, Nat.le_of_ble_eq_true rfl⟩) hN hE hL (rcv6 hN hT hw.1) rfl rfl hl.1 (Nat.le_of_ble_eq_true rfl) dX5_codeOfWord_38 (Nat.zero_le _) (Nat.zero_le _) (fun r1523 H1 locs hL hqr1523 => ?_)
        obtain ⟨h9, hqr1523⟩ := hqr1523; replace h9 := h9.symm; subst h9
        rcases hqr1523 with rfl | rfl
        · refine lv_if_eq (tgt := 49) hx hb dX5_codeOfWord_41 (by decide) (fun _ => ?_) (fun c9 => absurd (by decide) c9)
          refine lv_iconst (v := 0) hx hb dX5_codeOfWord_49 (by decide) ?_
          exact en_i hx hb hr hlocks hL rfl (Nat.zero_le _) (Nat.zero_le _) dX5_codeOfWord_50 (rfl)
        · refine lv_if_eq (tgt := 49) hx hb dX5_codeOfWord_41 (by decide) (fun c9 => absurd c9 (by decide)) (fun _ => ?_)
          refine lv_bipush (v := (-4)) hx hb dX5_codeOfWord_44 (by decide) ?_
          refine lv_goto (tgt := 50) hx hb dX5_codeOfWord_46 (by decide) ?_
          exact en_i hx hb hr hlocks hL rfl (Nat.zero_le _) (Nat.zero_le _) dX5_codeOfWord_50 (rfl)
      · refine lv_if_eq (tgt := 35) hx hb dX5_codeOfWord_29 (by decide) (fun c9 => absurd c9 (by decide)) (fun _ => ?_)
        refine lv_bipush (v := (-3)) hx hb dX5_codeOfWord_32 (by decide) ?_
        exact en_i hx hb hr hlocks hL rfl (Nat.zero_le _) (Nat.zero_le _) dX5_codeOfWord_34 (rfl)
    · refine lv_if_eq (tgt := 23) hx hb dX5_codeOfWord_17 (by decide) (fun c9 => absurd c9 (by decide)) (fun _ => ?_)
      refine lv_bipush (v := (-2)) hx hb dX5_codeOfWord_20 (by decide) ?_
      exact en_i hx hb hr hlocks hL rfl (Nat.zero_le _) (Nat.zero_le _) dX5_codeOfWord_22 (rfl)
  · refine lv_if_eq (tgt := 11) hx hb dX5_codeOfWord_6 (by decide) (fun c9 => absurd c9 (by decide)) (fun _ => ?_)
    refine lv_iconst (v := (-1)) hx hb dX5_codeOfWord_9 (by decide) ?_
    exact en_i hx hb hr hlocks hL rfl (Nat.zero_le _) (Nat.zero_le _) dX5_codeOfWord_10 (rfl)
theorem mX5_readNeed_1 : (.fieldLink RX5 65 "OneBeat$Reader" "setup" "LOneBeat$Setup;" : Cond) ∈ wsX5_readNeed := List.mem_of_getElem? (i := 1) (by decide +kernel)
theorem iX5_readNeed_5 : ∀ w ∈ wsX50, w ∈ wsX5_readNeed := fun w h => List.mem_of_mem_drop (List.mem_of_mem_take ((show wsX50 = (wsX5_readNeed.drop 26).take 14 by decide +kernel) ▸ h))
theorem iX5_readNeed_6 : ∀ w ∈ wsX60, w ∈ wsX5_readNeed := fun w h => List.mem_of_mem_drop (List.mem_of_mem_take ((show wsX60 = (wsX5_readNeed.drop 40).take 8 by decide +kernel) ▸ h))
theorem hdX5_takeNumber_v : yX5_takeNumber.cls = RX5 ∧ yX5_takeNumber.cls ≠ "java/lang/invoke/MethodHandle" ∧ yX5_takeNumber.cls ≠ "java/lang/invoke/VarHandle" ∧ (parseMethodDescriptor yX5_takeNumber.desc).map (fun d => d.parameters.length) = some 2 := by decide +kernel
theorem mX5_readNeed_2 : (.fieldLink RX5 59 "OneBeat$Reader" "taken" "I" : Cond) ∈ wsX5_readNeed := List.mem_of_getElem? (i := 2) (by decide +kernel)
set_option maxHeartbeats 4000000 in
set_option maxRecDepth 100000 in
theorem c_X5_readNeed {l : Launch} {D : va_G} {cs : Nat → ClassId} {B0 T : Nat} {κ : KM} {H0 : Heap} (hT : WT B0 D cs T κ H0) {w : Nat} (hw : T2 κ w 6 10) (hs0 : ¬ (κ w).2.2.2 = 0) (hsu : T2 κ (κ w).2.2.2 7 11) : KC l yX5_readNeed wsX5_readNeed 2 44 0 0 D cs B0 H0 [.ref w] (Qi (fun r H => WT B0 D cs T κ H ∧ Fr B0 [10, 11] κ H0 H ∧ (r = 0 ∨ r = 1))) := by
  refine KC.of cX5_readNeed 1 (some .boolean) (by decide) rfl (Nat.le_of_ble_eq_true rfl) ?_
  intro p e s m below meth c ls hx hb hr hml hown hts hlocks hin hN hE hH0 hl
  have hown : s.vm.findClass RX5 = some m.cls := hown
  have hl : lv_has ls 1 [(0, .ref w)] := hl
  have hL : OkL B0 [] := OkL.nil
  have hF : Fr B0 [10, 11] κ H0 H0 := Fr.rf
  refine lv_aload_n hx hb dX5_readNeed_0 rfl (lv_at hl 0 rfl) ?_
  refine cv_v (As := []) (rest := []) (b := w) ⟨hx, hb, hml, hown, hts⟩ (c_X5_step hT (w := w) hw) (cwV 0 hts gX5_readNeed_X5_step rfl rfl rfl hdX5_step_v ⟨Nat.le_of_ble_eq_true rfl, Nat.le_of_ble_eq_true rfl⟩) hN hE hL (rcv6 hN hT hw.1) rfl rfl hl.1 (Nat.le_of_ble_eq_true rfl) dX5_readNeed_1 (Nat.zero_le _) (Nat.zero_le _) (fun H1 locs hL hqr1524 => ?_)
  obtain ⟨hT1, hF1, hqr1524⟩ := hqr1524
  have hF := hF.tr (hF1.mono (by simp))
  have hT := hT1
  have f1525 := hqr1524
  refine lv_aload_n hx hb dX5_readNeed_4 rfl (lv_at hl 0 rfl) ?_
  refine lv_iconst (v := 1) hx hb dX5_readNeed_5 (by decide) ?_
  refine lv_aload_n hx hb dX5_readNeed_6 rfl (lv_at hl 0 rfl) ?_
  obtain ⟨hb1526, e1526, hat1526, hk1526⟩ := hT.o6 hw.1
  obtain ⟨f1526_0, f1526_2, f1526_3, f1526_4, f1526_5, f1526_6, f1526_7, f1526_8, f1526_9, f1526_10, f1526_11, f1526_12, f1526_13, rfl, c1526_1, c1526_2, c1526_3, c1526_5, c1526_10, t1526_0, t1526_9, c1526_11, c1526_p2⟩ := hk1526
  obtain rfl : f1526_11 = .ref (κ w).2.2.2 := c1526_p2.resolve_left hs0
  have hP : va_P D vwCl [(w, .inr (5, [.ref f1526_0, .int (nI ((κ w).2.2.1)), .int (nI f1526_2), .int (nI f1526_3), .int f1526_4, .int (nI f1526_5), .int f1526_6, .int f1526_7, .int f1526_8, .ref f1526_9, .int (nI f1526_10), .ref (κ w).2.2.2, .int f1526_12, .int f1526_13]))] _ := va_P.cons hat1526 va_P.nil
  refine va_get (D := D) (ci := 5) (v := .ref (κ w).2.2.2) (C := RX5) (T := TX5) (N := 14) hx hb hts iX5_readNeed_5 hown hN.1 hP 0 rfl rfl 11 (by decide) (hts _ mX5_readNeed_1) (fun _ h9 => h9) rfl dX5_readNeed_7 ?_
  obtain ⟨hb1527, e1527, hat1527, hk1527⟩ := hT.o7 hsu.1
  obtain ⟨f1527_0, f1527_1, f1527_2, f1527_3, f1527_4, f1527_5, f1527_6, f1527_7, rfl, c1527_0, c1527_3, c1527_mg, t1527_4, t1527_5, t1527_6, t1527_7⟩ := hk1527
  rw [hsu.2] at t1527_4
  rw [hsu.2] at t1527_5
  rw [hsu.2] at t1527_6
  rw [hsu.2] at t1527_7
  have hP : va_P D vwCl [((κ w).2.2.2, .inr (6, [.int (nI f1527_0), .int f1527_1, .int f1527_2, f1527_3, .ref f1527_4, .ref f1527_5, .ref f1527_6, .ref f1527_7])), (w, .inr (5, [.ref f1526_0, .int (nI ((κ w).2.2.1)), .int (nI f1526_2), .int (nI f1526_3), .int f1526_4, .int (nI f1526_5), .int f1526_6, .int f1526_7, .int f1526_8, .ref f1526_9, .int (nI f1526_10), .ref (κ w).2.2.2, .int f1526_12, .int f1526_13]))] _ := va_P.cons hat1527 hP
  refine va_getN (D := D) (ci := 6) (v := .int (nI f1527_0)) (C := RX6) (T := TX6) (N := 8) hx hb hts iX5_readNeed_6 hown hN.1 hP 0 rfl rfl 0 (by decide) (hN.f 38 rfl) (fun _ h9 => h9) rfl dX5_readNeed_10 ?_
  refine cv_i (As := [.int 1, .int (nI f1527_0)]) (rest := []) (b := w) ⟨hx, hb, hml, hown, hts⟩ (c_X5_takeNumber hT (w := w) hw (x := 1) (y := (nI f1527_0))) (cwV 2 hts gX5_readNeed_X5_takeNumber rfl rfl rfl hdX5_takeNumber_v ⟨Nat.le_of_ble_eq_true rfl, Nat.le_of_ble_eq_true rfl⟩) hN hE hL (rcv6 hN hT hw.1) rfl rfl hl.1 (Nat.le_of_ble_eq_true rfl) dX5_readNeed_13 (Nat.zero_le _) (Nat.zero_le _) (fun r1528 H1 locs hL hqr1528 => ?_)
  obtain ⟨hT1, hF1, hqr1528⟩ := hqr1528
  have hP : va_P D vwCl [((κ w).2.2.2, .inr (6, [.int (nI f1527_0), .int f1527_1, .int f1527_2, f1527_3, .ref f1527_4, .ref f1527_5, .ref f1527_6, .ref f1527_7]))] _ := hF1.hP (hP.sub [0] rfl) (fa_c ⟨by rw [hsu.1]; decide, by rw [hsu.2]; first | decide | (simp; done) | (simp [h15a, h15b, h15c]; done) | (simp; omega)⟩ fa_n)
  have hF := hF.tr (hF1.mono (by simp))
  have hT := hT1
  rcases hqr1528 with rfl | ⟨rfl, v1529, l1530, g1531, f1532⟩
  · refine lv_if_ne (tgt := 21) hx hb dX5_readNeed_16 (by decide) (fun c9 => absurd (by decide) c9) (fun _ => ?_)
    refine lv_iconst (v := 0) hx hb dX5_readNeed_19 (by decide) ?_
    exact en_i hx hb hr hlocks hL rfl (Nat.zero_le _) (Nat.zero_le _) dX5_readNeed_20 (⟨hT, hF, Or.inl rfl⟩)
  · refine lv_if_ne (tgt := 21) hx hb dX5_readNeed_16 (by decide) (fun _ => ?_) (fun c9 => absurd c9 (by decide))
    refine lv_aload_n hx hb dX5_readNeed_21 rfl (lv_at hl 0 rfl) ?_
    obtain ⟨hb1533, e1533, hat1533, hk1533⟩ := hT.o6 hw.1
    obtain ⟨f1533_0, f1533_2, f1533_3, f1533_4, f1533_5, f1533_6, f1533_7, f1533_8, f1533_9, f1533_10, f1533_11, f1533_12, f1533_13, rfl, c1533_1, c1533_2, c1533_3, c1533_5, c1533_10, t1533_0, t1533_9, c1533_11, c1533_p2⟩ := hk1533
    obtain rfl : f1533_11 = .ref (κ w).2.2.2 := c1533_p2.resolve_left hs0
    have hP : va_P D vwCl [(w, .inr (5, [.ref f1533_0, .int (nI ((κ w).2.2.1)), .int (nI f1533_2), .int (nI f1533_3), .int f1533_4, .int (nI f1533_5), .int f1533_6, .int f1533_7, .int f1533_8, .ref f1533_9, .int (nI f1533_10), .ref (κ w).2.2.2, .int f1533_12, .int f1533_13])), ((κ w).2.2.2, .inr (6, [.int (nI f1527_0), .int f1527_1, .int f1527_2, f1527_3, .ref f1527_4, .ref f1527_5, .ref f1527_6, .ref f1527_7]))] _ := va_P.cons hat1533 hP
    refine va_get (D := D) (ci := 5) (v := .ref (κ w).2.2.2) (C := RX5) (T := TX5) (N := 14) hx hb hts iX5_readNeed_5 hown hN.1 hP 0 rfl rfl 11 (by decide) (hts _ mX5_readNeed_1) (fun _ h9 => h9) rfl dX5_readNeed_22 ?_
    refine lv_aload_n hx hb dX5_readNeed_25 rfl (lv_at hl 0 rfl) ?_
    refine va_get (D := D) (ci := 5) (v := .int f1533_7) (C := RX5) (T := TX5) (N := 14) hx hb hts iX5_readNeed_5 hown hN.1 hP 0 rfl rfl 7 (by decide) (hts _ mX5_readNeed_2) (fun _ h9 => h9) rfl dX5_readNeed_26 ?_
    have hB : Bx B0 D _ [(w, .inr (5, [.ref f1533_0, .int (nI ((κ w).2.2.1)), .int (nI f1533_2), .int (nI f1533_3), .int f1533_4, .int (nI f1533_5), .int f1533_6, .int f1533_7, .int f1533_8, .ref f1533_9, .int (nI f1533_10), .ref (κ w).2.2.2, .int f1533_12, .int f1533_13])), ((κ w).2.2.2, .inr (6, [.int (nI f1527_0), .int f1527_1, .int f1527_2, f1527_3, .ref f1527_4, .ref f1527_5, .ref f1527_6, .ref f1527_7]))] [] _ _ := Bx.of (fun a => (κ a).1) hL hP (fa_c hb1533 (fa_c hb1527 fa_n)) (by simp only [List.map_cons, List.map_nil, hw.1, hsu.1]; decide)
    refine b_putN (D := D) (ci := 6) (v := .int f1533_7) (ty := .int) (C := RX6) (T := TX6) (N := 8) hx hb hts iX5_readNeed_6 tyX6 tyX6_ok nmX6 hown hN hB 1 rfl rfl 1 (by decide) (hN.f 40 rfl) (fun _ h9 => h9) rfl (by decide +kernel) rfl rfl (Nat.le_of_ble_eq_true rfl) (.inl rfl) dX5_readNeed_29 (fun H locs hB => ?_)
    have hB : Bx B0 D _ [(w, .inr (5, [.ref f1533_0, .int (nI ((κ w).2.2.1)), .int (nI f1533_2), .int (nI f1533_3), .int f1533_4, .int (nI f1533_5), .int f1533_6, .int f1533_7, .int f1533_8, .ref f1533_9, .int (nI f1533_10), .ref (κ w).2.2.2, .int f1533_12, .int f1533_13])), ((κ w).2.2.2, .inr (6, [.int (nI f1527_0), .int f1533_7, .int f1527_2, f1527_3, .ref f1527_4, .ref f1527_5, .ref f1527_6, .ref f1527_7]))] [(κ w).2.2.2] _ _ := hB
    refine lv_iconst (v := 1) hx hb dX5_readNeed_32 (by decide) ?_
    have hT : WT B0 D cs T κ _ := hT.close hB ⟨⟨1, _, rfl, ok_7 hsu.1 ⟨_, _, _, _, _, _, _, _, rfl, (by omega), c1527_3, c1527_mg, ⟨t1527_4.1, by rw [hsu.2]; exact t1527_4.2⟩, ⟨t1527_5.1, by rw [hsu.2]; exact t1527_5.2⟩, ⟨t1527_6.1, by rw [hsu.2]; exact t1527_6.2⟩, ⟨t1527_7.1, by rw [hsu.2]; exact t1527_7.2⟩⟩⟩, trivial⟩
    have hF : Fr B0 [10, 11] κ H0 _ := hF.close hB (fa_c (by simp [hsu.2]) fa_n)
    have hL : OkL B0 _ := hB.2.2.2.2.2
    have hP : va_P D vwCl [(w, .inr (5, [.ref f1533_0, .int (nI ((κ w).2.2.1)), .int (nI f1533_2), .int (nI f1533_3), .int f1533_4, .int (nI f1533_5), .int f1533_6, .int f1533_7, .int f1533_8, .ref f1533_9, .int (nI f1533_10), .ref (κ w).2.2.2, .int f1533_12, .int f1533_13])), ((κ w).2.2.2, .inr (6, [.int (nI f1527_0), .int f1533_7, .int f1527_2, f1527_3, .ref f1527_4, .ref f1527_5, .ref f1527_6, .ref f1527_7]))] _ := hB.1
    exact en_i hx hb hr hlocks hL rfl (Nat.zero_le _) (Nat.zero_le _) dX5_readNeed_33 (⟨hT, hF, Or.inr rfl⟩)
theorem mX5_readPatience_1 : (.fieldLink RX5 65 "OneBeat$Reader" "setup" "LOneBeat$Setup;" : Cond) ∈ wsX5_readPatience := List.mem_of_getElem? (i := 1) (by decide +kernel)
theorem iX5_readPatience_5 : ∀ w ∈ wsX50, w ∈ wsX5_readPatience := fun w h => List.mem_of_mem_drop (List.mem_of_mem_take ((show wsX50 = (wsX5_readPatience.drop 26).take 14 by decide +kernel) ▸ h))
theorem mX5_readPatience_2 : (.fieldLink RX5 59 "OneBeat$Reader" "taken" "I" : Cond) ∈ wsX5_readPatience := List.mem_of_getElem? (i := 2) (by decide +kernel)
theorem iX5_readPatience_6 : ∀ w ∈ wsX60, w ∈ wsX5_readPatience := fun w h => List.mem_of_mem_drop (List.mem_of_mem_take ((show wsX60 = (wsX5_readPatience.drop 40).take 8 by decide +kernel) ▸ h))
