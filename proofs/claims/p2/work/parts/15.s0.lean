theorem mJ0_coder_7d493_1 : (.fieldLink RJ0 38 "java/lang/String" "COMPACT_STRINGS" "Z" : Cond) ∈ wsJ0_coder_7d493 := List.mem_of_getElem? (i := 1) (by decide +kernel)
theorem mJ0_coder_7d493_2 : (.fieldLink RJ0 15 "java/lang/String" "coder" "B" : Cond) ∈ wsJ0_coder_7d493 := List.mem_of_getElem? (i := 2) (by decide +kernel)
set_option maxHeartbeats 4000000 in
set_option maxRecDepth 100000 in
theorem c_J0_coder_7d493 {l : Launch} {D : va_G} {cs : Nat → ClassId} {B0 T : Nat} {κ : KM} {H0 : Heap} (hT : WT B0 D cs T κ H0) {i : Nat} (hi9 : i ∈ nW) : KC l yJ0_coder_7d493 wsJ0_coder_7d493 0 0 0 0 D cs B0 H0 [.ref (cs (100 + i))] (Qi (fun r H => H = H0 ∧ r = 0)) := by
  refine KC.of cJ0_coder_7d493 1 (some .byte) (by decide) rfl (Nat.le_of_ble_eq_true rfl) ?_
  intro p e s m below meth c ls hx hb hr hml hown hts hlocks hin hN hE hH0 hl
  have hown : s.vm.findClass RJ0 = some m.cls := hown
  have hl : lv_has ls 1 [(0, .ref (cs (100 + i)))] := hl
  have hL : OkL B0 [] := OkL.nil
  refine W.vaS hL (fun hS => ?_)
  refine va_gets hx hb hE.2.2.1 hS hown (hts _ mJ0_coder_7d493_1) (fun _ h9 => h9) dJ0_coder_7d493_0 ?_
  refine lv_if_eq (tgt := 13) hx hb dJ0_coder_7d493_3 (by decide) (fun c9 => absurd c9 (by decide)) (fun _ => ?_)
  refine lv_aload_n hx hb dJ0_coder_7d493_6 rfl (lv_at hl 0 rfl) ?_
  refine W.vaS hL (fun hS => ?_)
  refine vk_getf hx hb (hE.2.1 _ hi9).2.1 hS hown (hts _ mJ0_coder_7d493_2) (fun _ h9 => h9) dJ0_coder_7d493_7 ?_
  refine lv_goto (tgt := 14) hx hb dJ0_coder_7d493_10 (by decide) ?_
  exact en_i hx hb hr hlocks hL rfl (Nat.zero_le _) (Nat.zero_le _) dJ0_coder_7d493_14 (⟨rfl, rfl⟩)
theorem mJ0_isLatin1_aae02_1 : (.fieldLink RJ0 38 "java/lang/String" "COMPACT_STRINGS" "Z" : Cond) ∈ wsJ0_isLatin1_aae02 := List.mem_of_getElem? (i := 1) (by decide +kernel)
theorem mJ0_isLatin1_aae02_2 : (.fieldLink RJ0 15 "java/lang/String" "coder" "B" : Cond) ∈ wsJ0_isLatin1_aae02 := List.mem_of_getElem? (i := 2) (by decide +kernel)
set_option maxHeartbeats 4000000 in
set_option maxRecDepth 100000 in
theorem c_J0_isLatin1_aae02 {l : Launch} {D : va_G} {cs : Nat → ClassId} {B0 T : Nat} {κ : KM} {H0 : Heap} (hT : WT B0 D cs T κ H0) {i : Nat} (hi9 : i ∈ nW) : KC l yJ0_isLatin1_aae02 wsJ0_isLatin1_aae02 0 0 0 0 D cs B0 H0 [.ref (cs (100 + i))] (Qi (fun r H => H = H0 ∧ r = 1)) := by
  refine KC.of cJ0_isLatin1_aae02 1 (some .boolean) (by decide) rfl (Nat.le_of_ble_eq_true rfl) ?_
  intro p e s m below meth c ls hx hb hr hml hown hts hlocks hin hN hE hH0 hl
  have hown : s.vm.findClass RJ0 = some m.cls := hown
  have hl : lv_has ls 1 [(0, .ref (cs (100 + i)))] := hl
  have hL : OkL B0 [] := OkL.nil
  refine W.vaS hL (fun hS => ?_)
  refine va_gets hx hb hE.2.2.1 hS hown (hts _ mJ0_isLatin1_aae02_1) (fun _ h9 => h9) dJ0_isLatin1_aae02_0 ?_
  refine lv_if_eq (tgt := 17) hx hb dJ0_isLatin1_aae02_3 (by decide) (fun c9 => absurd c9 (by decide)) (fun _ => ?_)
  refine lv_aload_n hx hb dJ0_isLatin1_aae02_6 rfl (lv_at hl 0 rfl) ?_
  refine W.vaS hL (fun hS => ?_)
  refine vk_getf hx hb (hE.2.1 _ hi9).2.1 hS hown (hts _ mJ0_isLatin1_aae02_2) (fun _ h9 => h9) dJ0_isLatin1_aae02_7 ?_
  refine lv_if_ne (tgt := 17) hx hb dJ0_isLatin1_aae02_10 (by decide) (fun c9 => absurd (by decide) c9) (fun _ => ?_)
  refine lv_iconst (v := 1) hx hb dJ0_isLatin1_aae02_13 (by decide) ?_
  refine lv_goto (tgt := 18) hx hb dJ0_isLatin1_aae02_14 (by decide) ?_
  exact en_i hx hb hr hlocks hL rfl (Nat.zero_le _) (Nat.zero_le _) dJ0_isLatin1_aae02_18 (⟨rfl, rfl⟩)
theorem mJ0_length_8abf5_1 : (.fieldLink RJ0 9 "java/lang/String" "value" "[B" : Cond) ∈ wsJ0_length_8abf5 := List.mem_of_getElem? (i := 1) (by decide +kernel)
theorem hdJ0_coder_7d493_v : yJ0_coder_7d493.cls = RJ0 ∧ yJ0_coder_7d493.cls ≠ "java/lang/invoke/MethodHandle" ∧ yJ0_coder_7d493.cls ≠ "java/lang/invoke/VarHandle" ∧ (parseMethodDescriptor yJ0_coder_7d493.desc).map (fun d => d.parameters.length) = some 0 := by decide +kernel
set_option maxHeartbeats 4000000 in
set_option maxRecDepth 100000 in
theorem c_J0_length_8abf5 {l : Launch} {D : va_G} {cs : Nat → ClassId} {B0 T : Nat} {κ : KM} {H0 : Heap} (hT : WT B0 D cs T κ H0) {i : Nat} (hi9 : i ∈ nW) : KC l yJ0_length_8abf5 wsJ0_length_8abf5 1 20 0 0 D cs B0 H0 [.ref (cs (100 + i))] (Qi (fun r H => H = H0 ∧ r = nI (nT i))) := by
  refine KC.of cJ0_length_8abf5 1 (some .int) (by decide) rfl (Nat.le_of_ble_eq_true rfl) ?_
  intro p e s m below meth c ls hx hb hr hml hown hts hlocks hin hN hE hH0 hl
  have hown : s.vm.findClass RJ0 = some m.cls := hown
  have hl : lv_has ls 1 [(0, .ref (cs (100 + i)))] := hl
  have hL : OkL B0 [] := OkL.nil
  refine lv_aload_n hx hb dJ0_length_8abf5_0 rfl (lv_at hl 0 rfl) ?_
  refine W.vaS hL (fun hS => ?_)
  refine vk_getf hx hb (hE.2.1 _ hi9).2.2.1 hS hown (hts _ mJ0_length_8abf5_1) (fun _ h9 => h9) dJ0_length_8abf5_1 ?_
  refine W.vaS hL (fun hS => ?_)
  obtain ⟨f9, hf9, hT9⟩ := (hE.2.1 _ hi9).2.2.2
  refine va_tlen (v := nI (nT i)) hx hb hT9 hS rfl dJ0_length_8abf5_4 ?_
  have hn9 := nT_le _ hi9
  refine lv_aload_n hx hb dJ0_length_8abf5_5 rfl (lv_at hl 0 rfl) ?_
  refine W.old hL (fun hold => ?_)
  refine cv_i (As := []) (rest := [.int (nI (nT i))]) (b := (cs (100 + i))) ⟨hx, hb, hml, hown, hts⟩ (c_J0_coder_7d493 hT (i := i) hi9) (cwV 0 hts gJ0_length_8abf5_J0_coder_7d493 rfl rfl rfl hdJ0_coder_7d493_v ⟨Nat.le_of_ble_eq_true rfl, Nat.le_of_ble_eq_true rfl⟩) hN hE hL (sx_rec (hE.2.1 _ hi9) hold) rfl rfl hl.1 (Nat.le_of_ble_eq_true rfl) dJ0_length_8abf5_6 (Nat.zero_le _) (Nat.zero_le _) (fun r1359 H1 locs hL hqr1359 => ?_)
  obtain ⟨h9, hqr1359⟩ := hqr1359; replace h9 := h9.symm; subst h9
  obtain rfl := hqr1359
  refine lv_ishr hx hb dJ0_length_8abf5_9 ?_
  refine tp_i (nI (nT i)) (shr0 _) ?_
  exact en_i hx hb hr hlocks hL rfl (Nat.zero_le _) (Nat.zero_le _) dJ0_length_8abf5_10 (⟨rfl, rfl⟩)
set_option maxHeartbeats 4000000 in
set_option maxRecDepth 100000 in
theorem c_J3_checkIndex_8e157 {l : Launch} {D : va_G} {cs : Nat → ClassId} {B0 T : Nat} {κ : KM} {H0 : Heap} (hT : WT B0 D cs T κ H0) {k n : Nat} {x : Value} (hx9 : x = .null ∨ ∃ a, x = .ref a) (hk : k < n) (hn : n ≤ 8) : KC l yJ3_checkIndex_8e157 wsJ3_checkIndex_8e157 0 0 0 0 D cs B0 H0 [.int (nI k), .int (nI n), x] (Qi (fun _ H => H = H0)) := by
  refine KC.of cJ3_checkIndex_8e157 3 (some .int) (by decide) rfl (Nat.le_of_ble_eq_true rfl) ?_
  intro p e s m below meth c ls hx hb hr hml hown hts hlocks hin hN hE hH0 hl
  have hown : s.vm.findClass RJ3 = some m.cls := hown
  have hl : lv_has ls 3 [(0, .int (nI k)), (1, .int (nI n)), (2, x)] := hl
  have hL : OkL B0 [] := OkL.nil
  refine lv_iload_n hx hb dJ3_checkIndex_8e157_0 rfl (lv_at hl 0 rfl) ?_
  refine lv_if_lt (tgt := 9) hx hb dJ3_checkIndex_8e157_1 (by decide) (fun c1360 => ?_) (fun c1360 => ?_)
  · have c1360 : k < 0 := (nI_ltI (a := k) (b := 0) (by omega) (by omega)).mp c1360
    exact absurd c1360 (nI_pos (by omega))
  · have c1360 : ¬ k < 0 := fun h9 => c1360 ((nI_ltI (a := k) (b := 0) (by omega) (by omega)).mpr h9)
    refine lv_iload_n hx hb dJ3_checkIndex_8e157_4 rfl (lv_at hl 0 rfl) ?_
    refine lv_iload_n hx hb dJ3_checkIndex_8e157_5 rfl (lv_at hl 1 rfl) ?_
    refine lv_icmp_lt (tgt := 16) hx hb dJ3_checkIndex_8e157_6 (by decide) (fun c1361 => ?_) (fun c1361 => ?_)
    · have c1361 : k < n := (nI_ltI (a := k) (b := n) (by omega) (by omega)).mp c1361
      refine lv_iload_n hx hb dJ3_checkIndex_8e157_16 rfl (lv_at hl 0 rfl) ?_
      exact en_i hx hb hr hlocks hL rfl (Nat.zero_le _) (Nat.zero_le _) dJ3_checkIndex_8e157_17 (rfl)
    · have c1361 : ¬ k < n := fun h9 => c1361 ((nI_ltI (a := k) (b := n) (by omega) (by omega)).mpr h9)
      exact absurd (by omega) c1361
theorem mJ0_checkIndex_df160_1 : (.fieldLink RJ0 1053 "jdk/internal/util/Preconditions" "SIOOBE_FORMATTER" "Ljava/util/function/BiFunction;" : Cond) ∈ wsJ0_checkIndex_df160 := List.mem_of_getElem? (i := 1) (by decide +kernel)
theorem hdJ3_checkIndex_8e157_o : yJ3_checkIndex_8e157.cls ≠ "java/lang/invoke/MethodHandle" ∧ yJ3_checkIndex_8e157.cls ≠ "java/lang/invoke/VarHandle" ∧ (parseMethodDescriptor yJ3_checkIndex_8e157.desc).map (fun d => d.parameters.length) = some 3 := by decide +kernel
set_option maxHeartbeats 4000000 in
set_option maxRecDepth 100000 in
theorem c_J0_checkIndex_df160 {l : Launch} {D : va_G} {cs : Nat → ClassId} {B0 T : Nat} {κ : KM} {H0 : Heap} (hT : WT B0 D cs T κ H0) {k n : Nat} (hk : k < n) (hn : n ≤ 8) : KC l yJ0_checkIndex_df160 wsJ0_checkIndex_df160 1 22 0 0 D cs B0 H0 [.int (nI k), .int (nI n)] (Qv (fun H => H = H0)) := by
  refine KC.of cJ0_checkIndex_df160 2 none (by decide) rfl (Nat.le_of_ble_eq_true rfl) ?_
  intro p e s m below meth c ls hx hb hr hml hown hts hlocks hin hN hE hH0 hl
  have hown : s.vm.findClass RJ0 = some m.cls := hown
  have hl : lv_has ls 2 [(0, .int (nI k)), (1, .int (nI n))] := hl
  have hL : OkL B0 [] := OkL.nil
  refine lv_iload_n hx hb dJ0_checkIndex_df160_0 rfl (lv_at hl 0 rfl) ?_
  refine lv_iload_n hx hb dJ0_checkIndex_df160_1 rfl (lv_at hl 1 rfl) ?_
  refine W.vaS hL (fun hS => ?_)
  rcases hE.2.2.2 with hz9 | ⟨t9, hz9⟩
  · refine va_gets hx hb hz9 hS hown (hts _ mJ0_checkIndex_df160_1) (fun _ h9 => h9) dJ0_checkIndex_df160_2 ?_
    refine cs_i (As := [.int (nI k), .int (nI n), .null]) (rest := []) ⟨hx, hb, hml, hown, hts⟩ (c_J3_checkIndex_8e157 hT (k := k) (n := n) (x := .null) ((by first | exact Or.inl rfl | exact Or.inr ⟨_, rfl⟩)) (by first | omega | decide | assumption) (by first | omega | decide | assumption)) (va_cwS 3 hts gJ0_checkIndex_df160_J3_checkIndex_8e157 rfl rfl rfl hdJ3_checkIndex_8e157_o ⟨Nat.le_of_ble_eq_true rfl, Nat.le_of_ble_eq_true rfl⟩) hN hE hL rfl rfl hl.1 (Nat.le_of_ble_eq_true rfl) dJ0_checkIndex_df160_5 (Nat.zero_le _) (Nat.zero_le _) (fun r1362 H1 locs hL hqr1362 => ?_)
    obtain rfl := hqr1362.symm
    refine lv_pop hx hb dJ0_checkIndex_df160_8 rfl ?_
    exact en_v hx hb hr hlocks hL (Nat.zero_le _) (Nat.zero_le _) dJ0_checkIndex_df160_9 (rfl)
  · refine va_gets hx hb hz9 hS hown (hts _ mJ0_checkIndex_df160_1) (fun _ h9 => h9) dJ0_checkIndex_df160_2 ?_
    refine cs_i (As := [.int (nI k), .int (nI n), .ref t9]) (rest := []) ⟨hx, hb, hml, hown, hts⟩ (c_J3_checkIndex_8e157 hT (k := k) (n := n) (x := .ref t9) ((by first | exact Or.inl rfl | exact Or.inr ⟨_, rfl⟩)) (by first | omega | decide | assumption) (by first | omega | decide | assumption)) (va_cwS 3 hts gJ0_checkIndex_df160_J3_checkIndex_8e157 rfl rfl rfl hdJ3_checkIndex_8e157_o ⟨Nat.le_of_ble_eq_true rfl, Nat.le_of_ble_eq_true rfl⟩) hN hE hL rfl rfl hl.1 (Nat.le_of_ble_eq_true rfl) dJ0_checkIndex_df160_5 (Nat.zero_le _) (Nat.zero_le _) (fun r1363 H1 locs hL hqr1363 => ?_)
    obtain rfl := hqr1363.symm
    refine lv_pop hx hb dJ0_checkIndex_df160_8 rfl ?_
    exact en_v hx hb hr hlocks hL (Nat.zero_le _) (Nat.zero_le _) dJ0_checkIndex_df160_9 (rfl)
theorem hdJ0_checkIndex_df160_o : yJ0_checkIndex_df160.cls ≠ "java/lang/invoke/MethodHandle" ∧ yJ0_checkIndex_df160.cls ≠ "java/lang/invoke/VarHandle" ∧ (parseMethodDescriptor yJ0_checkIndex_df160.desc).map (fun d => d.parameters.length) = some 2 := by decide +kernel
set_option maxHeartbeats 4000000 in
set_option maxRecDepth 100000 in
theorem c_J1_charAt_3b067 {l : Launch} {D : va_G} {cs : Nat → ClassId} {B0 T : Nat} {κ : KM} {H0 : Heap} (hT : WT B0 D cs T κ H0) {i : Nat} (hi9 : i ∈ nW) {k : Nat} (hk : k < nT i) : KC l yJ1_charAt_3b067 wsJ1_charAt_3b067 2 43 0 0 D cs B0 H0 [.ref (cs (200 + i)), .int (nI k)] (Qi (fun r H => H = H0 ∧ ∃ n, n ≤ 255 ∧ r = nI n)) := by
  refine KC.of cJ1_charAt_3b067 2 (some .char) (by decide) rfl (Nat.le_of_ble_eq_true rfl) ?_
  intro p e s m below meth c ls hx hb hr hml hown hts hlocks hin hN hE hH0 hl
  have hown : s.vm.findClass RJ1 = some m.cls := hown
  have hl : lv_has ls 2 [(0, .ref (cs (200 + i))), (1, .int (nI k))] := hl
  have hL : OkL B0 [] := OkL.nil
  refine lv_iload_n hx hb dJ1_charAt_3b067_0 rfl (lv_at hl 1 rfl) ?_
  refine lv_aload_n hx hb dJ1_charAt_3b067_1 rfl (lv_at hl 0 rfl) ?_
  refine W.vaS hL (fun hS => ?_)
  obtain ⟨f9, hf9, hT9⟩ := (hE.2.1 _ hi9).2.2.2
  refine va_tlen (v := nI (nT i)) hx hb hT9 hS rfl dJ1_charAt_3b067_2 ?_
  have hn9 := nT_le _ hi9
  refine cs_v (As := [.int (nI k), .int (nI (nT i))]) (rest := []) ⟨hx, hb, hml, hown, hts⟩ (c_J0_checkIndex_df160 hT (k := k) (n := (nT i)) (by first | omega | decide | assumption) (by first | omega | decide | assumption)) (va_cwS 2 hts gJ1_charAt_3b067_J0_checkIndex_df160 rfl rfl rfl hdJ0_checkIndex_df160_o ⟨Nat.le_of_ble_eq_true rfl, Nat.le_of_ble_eq_true rfl⟩) hN hE hL rfl rfl hl.1 (Nat.le_of_ble_eq_true rfl) dJ1_charAt_3b067_3 (Nat.zero_le _) (Nat.zero_le _) (fun H1 locs hL hqr1364 => ?_)
  obtain rfl := hqr1364.symm
  refine lv_aload_n hx hb dJ1_charAt_3b067_6 rfl (lv_at hl 0 rfl) ?_
  refine lv_iload_n hx hb dJ1_charAt_3b067_7 rfl (lv_at hl 1 rfl) ?_
  refine W.vaS hL (fun hS => ?_)
  obtain ⟨f9, hf9, hT9⟩ := (hE.2.1 _ hi9).2.2.2
  have hn9 := nT_le _ hi9
  obtain ⟨x1365, hb9⟩ := hf9 (k) (by omega)
  refine va_tb (v := .int x1365) hx hb hT9 hS (vp_in_nI (n := k) (N := nT i) (by omega) (by omega)) (by rw [show ((nI k) : Int32).toNatClampNeg = k from nI_clamp (n := k) (by omega)]; exact hb9) dJ1_charAt_3b067_8 ?_
  refine lv_sipush (v := 255) hx hb dJ1_charAt_3b067_9 (by decide) ?_
  refine lv_iand hx hb dJ1_charAt_3b067_12 ?_
  have hj1366 := m255_lt x1365
  refine tp_i (nI (m255 x1365)) (and255 x1365) ?_
  refine lv_i2c (v := (nI (m255 x1365))) hx hb dJ1_charAt_3b067_13 (i2cn (by omega)) ?_
  exact en_i hx hb hr hlocks hL (nch (by omega)) (Nat.zero_le _) (Nat.zero_le _) dJ1_charAt_3b067_14 (⟨rfl, _, (by omega), rfl⟩)
theorem hdJ0_isLatin1_aae02_v : yJ0_isLatin1_aae02.cls = RJ0 ∧ yJ0_isLatin1_aae02.cls ≠ "java/lang/invoke/MethodHandle" ∧ yJ0_isLatin1_aae02.cls ≠ "java/lang/invoke/VarHandle" ∧ (parseMethodDescriptor yJ0_isLatin1_aae02.desc).map (fun d => d.parameters.length) = some 0 := by decide +kernel
theorem mJ0_charAt_5068e_1 : (.fieldLink RJ0 9 "java/lang/String" "value" "[B" : Cond) ∈ wsJ0_charAt_5068e := List.mem_of_getElem? (i := 1) (by decide +kernel)
theorem hdJ1_charAt_3b067_o : yJ1_charAt_3b067.cls ≠ "java/lang/invoke/MethodHandle" ∧ yJ1_charAt_3b067.cls ≠ "java/lang/invoke/VarHandle" ∧ (parseMethodDescriptor yJ1_charAt_3b067.desc).map (fun d => d.parameters.length) = some 2 := by decide +kernel
set_option maxHeartbeats 4000000 in
set_option maxRecDepth 100000 in
theorem c_J0_charAt_5068e {l : Launch} {D : va_G} {cs : Nat → ClassId} {B0 T : Nat} {κ : KM} {H0 : Heap} (hT : WT B0 D cs T κ H0) {i : Nat} (hi9 : i ∈ nW) {k : Nat} (hk : k < nT i) : KC l yJ0_charAt_5068e wsJ0_charAt_5068e 3 64 0 0 D cs B0 H0 [.ref (cs (100 + i)), .int (nI k)] (Qi (fun r H => H = H0 ∧ ∃ n, n ≤ 255 ∧ r = nI n)) := by
  refine KC.of cJ0_charAt_5068e 2 (some .char) (by decide) rfl (Nat.le_of_ble_eq_true rfl) ?_
  intro p e s m below meth c ls hx hb hr hml hown hts hlocks hin hN hE hH0 hl
  have hown : s.vm.findClass RJ0 = some m.cls := hown
  have hl : lv_has ls 2 [(0, .ref (cs (100 + i))), (1, .int (nI k))] := hl
  have hL : OkL B0 [] := OkL.nil
  refine lv_aload_n hx hb dJ0_charAt_5068e_0 rfl (lv_at hl 0 rfl) ?_
  refine W.old hL (fun hold => ?_)
  refine cv_i (As := []) (rest := []) (b := (cs (100 + i))) ⟨hx, hb, hml, hown, hts⟩ (c_J0_isLatin1_aae02 hT (i := i) hi9) (cwV 0 hts gJ0_charAt_5068e_J0_isLatin1_aae02 rfl rfl rfl hdJ0_isLatin1_aae02_v ⟨Nat.le_of_ble_eq_true rfl, Nat.le_of_ble_eq_true rfl⟩) hN hE hL (sx_rec (hE.2.1 _ hi9) hold) rfl rfl hl.1 (Nat.le_of_ble_eq_true rfl) dJ0_charAt_5068e_1 (Nat.zero_le _) (Nat.zero_le _) (fun r1367 H1 locs hL hqr1367 => ?_)
  obtain ⟨h9, hqr1367⟩ := hqr1367; replace h9 := h9.symm; subst h9
  obtain rfl := hqr1367
  refine lv_if_eq (tgt := 16) hx hb dJ0_charAt_5068e_4 (by decide) (fun c9 => absurd c9 (by decide)) (fun _ => ?_)
  refine lv_aload_n hx hb dJ0_charAt_5068e_7 rfl (lv_at hl 0 rfl) ?_
  refine W.vaS hL (fun hS => ?_)
  refine vk_getf hx hb (hE.2.1 _ hi9).2.2.1 hS hown (hts _ mJ0_charAt_5068e_1) (fun _ h9 => h9) dJ0_charAt_5068e_8 ?_
  refine lv_iload_n hx hb dJ0_charAt_5068e_11 rfl (lv_at hl 1 rfl) ?_
  refine cs_i (As := [.ref (cs (200 + i)), .int (nI k)]) (rest := []) ⟨hx, hb, hml, hown, hts⟩ (c_J1_charAt_3b067 hT (i := i) hi9 (k := k) (by first | omega | decide | assumption)) (va_cwS 2 hts gJ0_charAt_5068e_J1_charAt_3b067 rfl rfl rfl hdJ1_charAt_3b067_o ⟨Nat.le_of_ble_eq_true rfl, Nat.le_of_ble_eq_true rfl⟩) hN hE hL rfl rfl hl.1 (Nat.le_of_ble_eq_true rfl) dJ0_charAt_5068e_12 (Nat.zero_le _) (Nat.zero_le _) (fun r1368 H1 locs hL hqr1368 => ?_)
  obtain ⟨h9, hqr1368⟩ := hqr1368; replace h9 := h9.symm; subst h9
  obtain ⟨n1369, h1370, rfl⟩ := hqr1368
  exact en_i hx hb hr hlocks hL (nch (by omega)) (Nat.zero_le _) (Nat.zero_le _) dJ0_charAt_5068e_15 (⟨rfl, _, (by omega), rfl⟩)
theorem mX5_hasRoomFor_1 : (.fieldLink RX5 19 "OneBeat$Reader" "stored" "I" : Cond) ∈ wsX5_hasRoomFor := List.mem_of_getElem? (i := 1) (by decide +kernel)
theorem iX5_hasRoomFor_5 : ∀ w ∈ wsX50, w ∈ wsX5_hasRoomFor := fun w h => List.mem_of_mem_drop (List.mem_of_mem_take ((show wsX50 = (wsX5_hasRoomFor.drop 3).take 14 by decide +kernel) ▸ h))
theorem mX5_hasRoomFor_2 : (.fieldLink RX5 11 "OneBeat$Reader" "text" "[B" : Cond) ∈ wsX5_hasRoomFor := List.mem_of_getElem? (i := 2) (by decide +kernel)
set_option maxHeartbeats 4000000 in
set_option maxRecDepth 100000 in
theorem c_X5_hasRoomFor {l : Launch} {D : va_G} {cs : Nat → ClassId} {B0 T : Nat} {κ : KM} {H0 : Heap} (hT : WT B0 D cs T κ H0) {w : Nat} (hw : T2 κ w 6 10) {n : Nat} (hn : n ≤ 600) : KC l yX5_hasRoomFor wsX5_hasRoomFor 0 0 0 0 D cs B0 H0 [.ref w, .int (nI n)] (Qi (fun r H => H = H0 ∧ ((r = 0 ∧ 600 < (κ w).2.2.1 + n) ∨ (r = 1 ∧ (κ w).2.2.1 + n ≤ 600)))) := by
  refine KC.of cX5_hasRoomFor 2 (some .boolean) (by decide) rfl (Nat.le_of_ble_eq_true rfl) ?_
  intro p e s m below meth c ls hx hb hr hml hown hts hlocks hin hN hE hH0 hl
  have hown : s.vm.findClass RX5 = some m.cls := hown
  have hl : lv_has ls 2 [(0, .ref w), (1, .int (nI n))] := hl
  have hL : OkL B0 [] := OkL.nil
  refine lv_aload_n hx hb dX5_hasRoomFor_0 rfl (lv_at hl 0 rfl) ?_
  obtain ⟨hb1371, e1371, hat1371, hk1371⟩ := hT.o6 hw.1
  obtain ⟨f1371_0, f1371_2, f1371_3, f1371_4, f1371_5, f1371_6, f1371_7, f1371_8, f1371_9, f1371_10, f1371_11, f1371_12, f1371_13, rfl, c1371_1, c1371_2, c1371_3, c1371_5, c1371_10, t1371_0, t1371_9, c1371_11⟩ := hk1371
  have hP : va_P D vwCl [(w, .inr (5, [.ref f1371_0, .int (nI ((κ w).2.2.1)), .int (nI f1371_2), .int (nI f1371_3), .int f1371_4, .int (nI f1371_5), .int f1371_6, .int f1371_7, .int f1371_8, .ref f1371_9, .int (nI f1371_10), f1371_11, .int f1371_12, .int f1371_13]))] _ := va_P.cons hat1371 va_P.nil
  refine va_get (D := D) (ci := 5) (v := .int (nI ((κ w).2.2.1))) (C := RX5) (T := TX5) (N := 14) hx hb hts iX5_hasRoomFor_5 hown hN.1 hP 0 rfl rfl 1 (by decide) (hts _ mX5_hasRoomFor_1) (fun _ h9 => h9) rfl dX5_hasRoomFor_1 ?_
  refine lv_iload_n hx hb dX5_hasRoomFor_4 rfl (lv_at hl 1 rfl) ?_
  refine lv_iadd hx hb dX5_hasRoomFor_5 ?_
  refine tp_i (nI (((κ w).2.2.1) + n)) (nI_add ((κ w).2.2.1) n) ?_
  refine lv_aload_n hx hb dX5_hasRoomFor_6 rfl (lv_at hl 0 rfl) ?_
  refine va_get (D := D) (ci := 5) (v := .ref f1371_0) (C := RX5) (T := TX5) (N := 14) hx hb hts iX5_hasRoomFor_5 hown hN.1 hP 0 rfl rfl 0 (by decide) (hts _ mX5_hasRoomFor_2) (fun _ h9 => h9) rfl dX5_hasRoomFor_7 ?_
  obtain ⟨hb1372, e1372, hat1372, hk1372⟩ := hT.o16 t1371_0.1
  obtain ⟨g1372, rfl⟩ := hk1372
  have hP : va_P D vwCl [(f1371_0, .inl (cs 1, 600, .inl g1372)), (w, .inr (5, [.ref f1371_0, .int (nI ((κ w).2.2.1)), .int (nI f1371_2), .int (nI f1371_3), .int f1371_4, .int (nI f1371_5), .int f1371_6, .int f1371_7, .int f1371_8, .ref f1371_9, .int (nI f1371_10), f1371_11, .int f1371_12, .int f1371_13]))] _ := va_P.cons hat1372 hP
  refine va_alen (v := 600) hx hb hN.1 hP 0 1 rfl rfl rfl dX5_hasRoomFor_10 ?_
  refine lv_icmp_gt (tgt := 18) hx hb dX5_hasRoomFor_11 (by decide) (fun c1373 => ?_) (fun c1373 => ?_)
  · have c1373 : 600 < (((κ w).2.2.1) + n) := (nI_ltI (a := 600) (b := (((κ w).2.2.1) + n)) (by omega) (by omega)).mp c1373
    refine lv_iconst (v := 0) hx hb dX5_hasRoomFor_18 (by decide) ?_
    exact en_i hx hb hr hlocks hL rfl (Nat.zero_le _) (Nat.zero_le _) dX5_hasRoomFor_19 (⟨rfl, Or.inl ⟨rfl, by omega⟩⟩)
  · have c1373 : ¬ 600 < (((κ w).2.2.1) + n) := fun h9 => c1373 ((nI_ltI (a := 600) (b := (((κ w).2.2.1) + n)) (by omega) (by omega)).mpr h9)
    refine lv_iconst (v := 1) hx hb dX5_hasRoomFor_14 (by decide) ?_
    refine lv_goto (tgt := 19) hx hb dX5_hasRoomFor_15 (by decide) ?_
    exact en_i hx hb hr hlocks hL rfl (Nat.zero_le _) (Nat.zero_le _) dX5_hasRoomFor_19 (⟨rfl, Or.inr ⟨rfl, by omega⟩⟩)
