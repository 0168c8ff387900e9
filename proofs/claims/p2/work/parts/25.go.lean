theorem iL_law_8 : ∀ w ∈ wsX80, w ∈ wsL_law := fun w h => List.mem_of_mem_drop (List.mem_of_mem_take ((show wsX80 = (wsL_law.drop 1061).take 7 by decide +kernel) ▸ h))
theorem iL_law_9 : ∀ w ∈ wsX90, w ∈ wsL_law := fun w h => List.mem_of_mem_drop (List.mem_of_mem_take ((show wsX90 = (wsL_law.drop 1068).take 18 by decide +kernel) ▸ h))
theorem mL_law_0 : (.classLink RL 8 RX8 : Cond) ∈ wsL_law := List.mem_of_getElem? (i := 0) (by decide +kernel)
theorem mL_law_1 : (.instantiable RX8 7 : Cond) ∈ wsL_law := List.mem_of_getElem? (i := 1) (by decide +kernel)
theorem mL_law_2 : (.initialized RX8 : Cond) ∈ wsL_law := List.mem_of_getElem? (i := 2) (by decide +kernel)
theorem mL_law_3 : (.classLink RL 62 RX9 : Cond) ∈ wsL_law := List.mem_of_getElem? (i := 3) (by decide +kernel)
theorem mL_law_4 : (.instantiable RX9 18 : Cond) ∈ wsL_law := List.mem_of_getElem? (i := 4) (by decide +kernel)
theorem mL_law_5 : (.initialized RX9 : Cond) ∈ wsL_law := List.mem_of_getElem? (i := 5) (by decide +kernel)
theorem mL_law_6 : (.arrayClass .long : Cond) ∈ wsL_law := List.mem_of_getElem? (i := 6) (by decide +kernel)
theorem mL_law_7 : (.methodLink RL 61 yX8_init : Cond) ∈ wsL_law := List.mem_of_getElem? (i := 7) (by decide +kernel)
theorem mL_law_8 : (.instanceMethod yX8_init : Cond) ∈ wsL_law := List.mem_of_getElem? (i := 8) (by decide +kernel)
theorem mL_law_132 : (.methodLink RL 64 yX9_init : Cond) ∈ wsL_law := List.mem_of_getElem? (i := 132) (by decide +kernel)
theorem mL_law_133 : (.instanceMethod yX9_init : Cond) ∈ wsL_law := List.mem_of_getElem? (i := 133) (by decide +kernel)
theorem dfL8 : ∀ j, j < 7 → defaultValue (tyX8 j) = vp_V [.null, .null, .null, .null, .int 0, .int 0, .int 0] j := by decide +kernel
theorem dfL9 : ∀ j, j < 18 → defaultValue (tyX9 j) = vp_V [.int 0, .null, .int 0, .int 0, .int 0, .int 0, .int 0, .int 0, .null, .null, .null, .null, .int 0, .int 0, .int 0, .int 0, .int 0, .null] j := by decide +kernel
theorem hdX8_init_o : yX8_init.cls ≠ "java/lang/invoke/MethodHandle" ∧ yX8_init.cls ≠ "java/lang/invoke/VarHandle" ∧ (parseMethodDescriptor yX8_init.desc).map (fun d => d.parameters.length) = some 0 := by decide +kernel
theorem hdX9_init_o : yX9_init.cls ≠ "java/lang/invoke/MethodHandle" ∧ yX9_init.cls ≠ "java/lang/invoke/VarHandle" ∧ (parseMethodDescriptor yX9_init.desc).map (fun d => d.parameters.length) = some 0 := by decide +kernel
set_option maxHeartbeats 4000000 in
set_option maxRecDepth 100000 in
theorem law_go {p : Program} {l : Launch} {e : Env} {s : State} {m : MethodId} {args : Array Value} {below : List Frame} {meth : Method} {c : Code} {Q : State → Prop} {D : va_G} {cs : Nat → ClassId} {b L : Nat} {xs : Nat → Int32} (hlt : l.stackTraces = false) (hx : p.tables.exec = Jvm.exec) (hb : c.code = cL_law) (hml : c.maxLocals = 9) (hown : s.vm.findClass RL = some m.cls) (hts : ∀ w ∈ wsL_law, w.before args s = true) (hN : NK D cs s) (hE : EX cs s.heap.size s s.heap) (hX : va_X b L xs s s.heap) (hbl : b < s.heap.size) (hL30 : L < 2 ^ 30) (hLN : L ≤ 3072) (kfin : ∀ (H : Heap) (locs : List Loc) (ls : Array Slot), OkL s.heap.size locs → W p l e room_1 s m args below meth c H locs 601024 7293034 Q (F0 m 764 ls [.int 1])) (ls : Array Slot) (hl : lv_has ls 9 [(0, .ref b)]) : W p l e room_1 s m args below meth c s.heap [] 0 0 Q (F0 m 0 ls []) := by
  have hS : va_S (fun q : Nat => s.heap.size ≤ q) s.heap s.heap [] := va_S.rf
  have hA : ∀ q : Nat, s.heap.size ≤ q → (fun q : Nat => s.heap.size ≤ q) q := fun _ h => h
  have hP : va_P D vwCl [] s.heap := fun k q h => by simp at h
  have hD : va_D (fun q : Nat => s.heap.size ≤ q) [] := ⟨fun i j p q h => by simp at h, fun k q h => by simp at h⟩
  refine va_new (ci := 8) (fs := [.null, .null, .null, .null, .int 0, .int 0, .int 0]) (C := RX8) (T := TX8) (N := 7) hx hb hts iL_law_8 tyX8 tyX8_ok hown (hts _ mL_law_0) (hts _ mL_law_1) (hts _ mL_law_2) hN.1 hP hD hS hA rfl dfL8 (Nat.le_of_ble_eq_true rfl) (Nat.le_of_ble_eq_true rfl) dL_law_0 (fun q0 H hP hD hS => ?_)
  refine W.widen (k := 1) (n := 7) (Nat.le_of_ble_eq_true rfl) (Nat.le_of_ble_eq_true rfl) ?_
  refine lv_dup hx hb dL_law_3 rfl ?_
  refine ci_vH (ws := []) (As := []) (rest := [.ref q0]) (b := q0) ⟨hx, hb, hml, hown, hts⟩ (fun sz => k_X8_init l D cs sz q0) (cwI 0 hts gL_law_X8_init rfl rfl rfl (hts _ mL_law_2) (hts _ mL_law_7) (hts _ mL_law_8) rfl hdX8_init_o ⟨(Nat.le_of_ble_eq_true rfl), (Nat.le_of_ble_eq_true rfl)⟩) hN hP hD hS hA rfl rfl hl.1 (Nat.le_of_ble_eq_true rfl) dL_law_4 (Nat.le_of_ble_eq_true rfl) (Nat.le_of_ble_eq_true rfl) (fun u H locs hP hD hS => ?_)
  refine W.widen (k := 375) (n := 6039) (Nat.le_of_ble_eq_true rfl) (Nat.le_of_ble_eq_true rfl) ?_
  have hP : va_P D vwCl (w8 cs q0 u.1 u.2) _ := hP
  have hD : va_D _ (w8 cs q0 u.1 u.2) := hD
  refine lv_astore_n (lv' := [(1, .ref q0), (0, .ref b)]) hx hb dL_law_7 rfl hl (by decide) rfl (fun ls hl => ?_)
  refine va_new (ci := 9) (fs := [.int 0, .null, .int 0, .int 0, .int 0, .int 0, .int 0, .int 0, .null, .null, .null, .null, .int 0, .int 0, .int 0, .int 0, .int 0, .null]) (C := RX9) (T := TX9) (N := 18) hx hb hts iL_law_9 tyX9 tyX9_ok hown (hts _ mL_law_3) (hts _ mL_law_4) (hts _ mL_law_5) hN.1 hP hD hS hA rfl dfL9 (Nat.le_of_ble_eq_true rfl) (Nat.le_of_ble_eq_true rfl) dL_law_8 (fun q1 H hP hD hS => ?_)
  refine W.widen (k := 376) (n := 6057) (Nat.le_of_ble_eq_true rfl) (Nat.le_of_ble_eq_true rfl) ?_
  refine lv_dup hx hb dL_law_11 rfl ?_
  refine ci_vH (ws := w8 cs q0 u.1 u.2) (As := []) (rest := [.ref q1]) (b := q1) ⟨hx, hb, hml, hown, hts⟩ (fun sz => k25w l D cs sz q1) (cwI 0 hts gL_law_X9_init rfl rfl rfl (hts _ mL_law_5) (hts _ mL_law_132) (hts _ mL_law_133) rfl hdX9_init_o ⟨(Nat.le_of_ble_eq_true rfl), (Nat.le_of_ble_eq_true rfl)⟩) hN hP hD hS hA rfl rfl hl.1 (Nat.le_of_ble_eq_true rfl) dL_law_12 (Nat.le_of_ble_eq_true rfl) (Nat.le_of_ble_eq_true rfl) (fun v H locs hP hD hS => ?_)
  refine W.widen (k := 390) (n := 467078) (Nat.le_of_ble_eq_true rfl) (Nat.le_of_ble_eq_true rfl) ?_
  refine lv_astore_n (lv' := [(2, .ref q1), (1, .ref q0), (0, .ref b)]) hx hb dL_law_15 rfl hl (by decide) rfl (fun ls hl => ?_)
  refine lv_iconst (v := 1) hx hb dL_law_16 (by decide) ?_
  refine na_i (atype := .long) (ty := .long) (N' := 1) (a0 := (1, .inr (.inl (fun _ => 0)))) 3 hN rfl hx hb (hts _ mL_law_6) rfl hP hD hS hA (fun _ => rfl) (by decide) (by decide) (by decide) (Nat.le_of_ble_eq_true rfl) (Nat.le_of_ble_eq_true rfl) dL_law_17 (fun q2 H hP hD hS => ?_)
  refine W.widen (k := 391) (n := 467079) (Nat.le_of_ble_eq_true rfl) (Nat.le_of_ble_eq_true rfl) ?_
  refine lv_astore_n (lv' := [(3, .ref q2), (2, .ref q1), (1, .ref q0), (0, .ref b)]) hx hb dL_law_19 rfl hl (by decide) rfl (fun ls hl => ?_)
  refine lv_iconst (v := 0) hx hb dL_law_20 (by decide) ?_
  refine lv_istore (lv' := [(4, .int 0), (3, .ref q2), (2, .ref q1), (1, .ref q0), (0, .ref b)]) hx hb dL_law_21 hl (by decide) rfl (fun ls hl => ?_)
  obtain ⟨cs1, κ, e9, hW⟩ := st_lst hP hD
  have hN1 := hN.cg e9
  have hE1 := hE.cg e9
  have hl : lv_has ls 9 [(4, .int (nI (6 * 0))), (0, .ref b), (1, .ref q0), (2, .ref q1), (3, .ref q2)] := lv_sub hl [0, 4, 3, 2, 1] rfl
  exact law_loop hlt hx hb hml hown hts hN1 hE1 hX hbl hbl hL30 hLN kfin 512 0 _ _ ls 391 467079 hS.2.2 hW (by decide) (Nat.le_of_eq rfl) (by decide) (Nat.le_trans (by decide) (Nat.le_add_left _ _)) hl (by decide) (by omega) (by omega)
