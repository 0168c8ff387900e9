/-- a call of a static method that catches -/
theorem csw_i {p : Program} {l : Launch} {e : Env} {R : Room} {s : State} {m : MethodId} {args : Array Value} {below : List Frame} {meth : Method} {c : Code} {H : Heap} {locs : List Loc} {cells slots : Nat} {Q : State → Prop} {cc bytes : ByteArray} {pc : Nat} {ls : Array Slot} {rest : List Value} {D : va_G} {cs : Nat → ClassId} {B0 : Nat} {y : MethodName} {wy Ts : List Cond} {fr lo mc ms nL maxL index n : Nat} {own : String} {ret : Option FieldType} {As st : List Value} {hh : List (Nat × Nat × Nat × Nat)} {B : Int32 → Heap → Prop} (S : CallFix p m c cc nL s args Ts own) (hM : KC l y wy fr lo mc ms D cs B0 H As (Qi B)) (cw : vx_CSW R s args own index y bytes maxL ret hh wy ({ frames := fr, cells := mc, slots := ms, locals := lo }) mc ms n) (hN : NK D cs s) (hE : EX cs B0 s s.heap) (hL : OkL B0 locs) (hst : st = As.reverse ++ rest) (hn : As.length = n) (hsz : ls.size = nL) (hroom : (rest.map fun v => v.category).sum ≤ 8) (hdg : decode cc pc = .ok (.invokestatic index, 3)) (hc1 : cells + mc ≤ R.cells) (hs1 : slots + ms ≤ R.slots)
    (kk : ∀ (r : Int32) (H1 : Heap) (locs1 : List Loc), OkL B0 locs1 → B r H1 → W p l e R s m args below meth c H1 locs1 (cells + mc) (slots + ms) Q (F0 m (pc + 3) ls (.int r :: rest))) : W p l e R s m args below meth c H locs cells slots Q (F0 m pc ls st) := by
  refine W.old hL (fun hold => ?_)
  refine tcall (vx_runSW (As := As) (rest := rest) S hM cw ⟨pcH_blind, fun U hU hW => ⟨rfl, hU, NK.warm hW hN, EX.at hE hold hU hW⟩⟩ rfl hn hsz hst (lv_room hroom) hdg ⟨hc1, hs1⟩) hL (fun v H1 locs1 hL1 hq => ?_)
  obtain ⟨r, rfl, hq⟩ := hq
  exact kk r H1 locs1 hL1 hq
/-- whether a number of the script is 0 -/
theorem sc_b {p : Program} {l : Launch} {e : Env} {R : Room} {s : State} {m : MethodId} {args : Array Value} {below : List Frame} {meth : Method} {c : Code} {H : Heap} {locs : List Loc} {cells slots : Nat} {Q : State → Prop} {cc : ByteArray} {pc : Nat} {ls : Array Slot} {rest : List Value} {x : Int32} (hx : p.tables.exec = Jvm.exec) (hb : c.code = cc) (h0 : decode cc pc = .ok (.ifCond .eq 7, 3)) (h1 : decode cc (pc + 3) = .ok (.iconst 1, 1)) (h2 : decode cc (pc + 4) = .ok (.goto 4, 3)) (h3 : decode cc (pc + 7) = .ok (.iconst 0, 1))
    (kk : ∀ z : Int32, z = 0 ∨ z = 1 → W p l e R s m args below meth c H locs cells slots Q (F0 m (pc + 8) ls (.int z :: rest))) : W p l e R s m args below meth c H locs cells slots Q (F0 m pc ls (.int x :: rest)) := by
  refine lv_if_eq (tgt := pc + 7) hx hb h0 (by omega) (fun _ => ?_) (fun _ => ?_)
  · refine lv_iconst (v := 0) hx hb h3 (by decide) ?_
    exact kk 0 (Or.inl rfl)
  · refine lv_iconst (v := 1) hx hb h1 (by decide) ?_
    refine lv_goto (tgt := pc + 8) hx hb h2 (by omega) ?_
    exact kk 1 (Or.inr rfl)

theorem hdX8_append_v : yX8_append.cls = RX8 ∧ yX8_append.cls ≠ "java/lang/invoke/MethodHandle" ∧ yX8_append.cls ≠ "java/lang/invoke/VarHandle" ∧ (parseMethodDescriptor yX8_append.desc).map (fun d => d.parameters.length) = some 5 := by decide +kernel
theorem hdX9_append_v : yX9_append.cls = RX9 ∧ yX9_append.cls ≠ "java/lang/invoke/MethodHandle" ∧ yX9_append.cls ≠ "java/lang/invoke/VarHandle" ∧ (parseMethodDescriptor yX9_append.desc).map (fun d => d.parameters.length) = some 5 := by decide +kernel
set_option maxHeartbeats 4000000 in
set_option maxRecDepth 100000 in
theorem law_0 {p : Program} {l : Launch} {e : Env} {s : State} {m : MethodId} {args : Array Value} {below : List Frame} {meth : Method} {c : Code} {Q : State → Prop} {D : va_G} {cs : Nat → ClassId} {B0 b L : Nat} {xs : Nat → Int32} (hlt : l.stackTraces = false) (hx : p.tables.exec = Jvm.exec) (hb : c.code = cL_law) (hml : c.maxLocals = 9) (hown : s.vm.findClass RL = some m.cls) (hts : ∀ w ∈ wsL_law, w.before args s = true) (hN : NK D cs s) (hE : EX cs B0 s s.heap) (hX : va_X b L xs s s.heap) (hbl : b < s.heap.size) (hbB : b < B0) (hL30 : L < 2 ^ 30) {xa ma oa : Nat} {i j : Nat} (hi : i + 6 ≤ L) (hj : j ≤ 511)
    (kend : ∀ (κ1 : KM) (T1 : Nat) (C1 : Nat → Nat) (LN1 : Nat → Nat → Nat) (H1 : Heap) (locs1 : List Loc) (ls1 : Array Slot) (k1 n1 : Nat), OkL B0 locs1 → LST D cs B0 κ1 H1 xa ma oa T1 C1 LN1 → T1 ≤ 25000 * (j + 1) → sumN C1 16 ≤ 24 * (j + 1) → 35 * k1 ≤ n1 + 35 * (j + 1) + 35000 → n1 ≤ PotN LN1 + 714 * (j + 1) + 600000 → lv_has ls1 9 [(4, .int (nI i)), (0, .ref b), (1, .ref xa), (2, .ref ma), (3, .ref oa)] → W p l e room_1 s m args below meth c H1 locs1 k1 n1 Q (F0 m 757 ls1 []))
    {κ : KM} {T : Nat} {C : Nat → Nat} {LN : Nat → Nat → Nat} (H : Heap) (locs : List Loc) (ls : Array Slot) (k n : Nat) (hL : OkL B0 locs) (hW : LST D cs B0 κ H xa ma oa T C LN) (hT : T ≤ 25000 * j) (hC : sumN C 16 ≤ 24 * j) (hA1 : 35 * k ≤ n + 35 * j + 35000) (hA2 : n ≤ PotN LN + 714 * j + 600000) (hl : lv_has ls 9 [(4, .int (nI i)), (0, .ref b), (1, .ref xa), (2, .ref ma), (3, .ref oa)]) : W p l e room_1 s m args below meth c H locs k n Q (F0 m 136 ls []) := by
  refine lv_aload_n hx hb dL_law_136 rfl (lv_at hl 2 rfl) ?_
  refine lv_aload_n hx hb dL_law_137 rfl (lv_at hl 1 rfl) ?_
  refine lv_iload hx hb dL_law_138 (lv_at hl 0 rfl) ?_
  refine lv_iconst (v := 1) hx hb dL_law_140 (by decide) ?_
  refine lv_iadd hx hb dL_law_141 ?_
  refine tp_i (nI (i + 1)) (nI_add i 1) ?_
  refine sc_i (n := i + 1) hx hb hL hX hbl hbB (by omega) (by omega) dL_law_142 ?_
  refine lv_aload_n hx hb dL_law_143 rfl (lv_at hl 1 rfl) ?_
  refine lv_iload hx hb dL_law_144 (lv_at hl 0 rfl) ?_
  refine lv_iconst (v := 2) hx hb dL_law_146 (by decide) ?_
  refine lv_iadd hx hb dL_law_147 ?_
  refine tp_i (nI (i + 2)) (nI_add i 2) ?_
  refine sc_i (n := i + 2) hx hb hL hX hbl hbB (by omega) (by omega) dL_law_148 ?_
  refine lv_aload_n hx hb dL_law_149 rfl (lv_at hl 1 rfl) ?_
  refine lv_iload hx hb dL_law_150 (lv_at hl 0 rfl) ?_
  refine lv_iconst (v := 3) hx hb dL_law_152 (by decide) ?_
  refine lv_iadd hx hb dL_law_153 ?_
  refine tp_i (nI (i + 3)) (nI_add i 3) ?_
  refine sc_i (n := i + 3) hx hb hL hX hbl hbB (by omega) (by omega) dL_law_154 ?_
  refine lv_aload_n hx hb dL_law_155 rfl (lv_at hl 1 rfl) ?_
  refine lv_iload hx hb dL_law_156 (lv_at hl 0 rfl) ?_
  refine lv_iconst (v := 4) hx hb dL_law_158 (by decide) ?_
  refine lv_iadd hx hb dL_law_159 ?_
  refine tp_i (nI (i + 4)) (nI_add i 4) ?_
  refine sc_i (n := i + 4) hx hb hL hX hbl hbB (by omega) (by omega) dL_law_160 ?_
  refine lv_aload_n hx hb dL_law_161 rfl (lv_at hl 1 rfl) ?_
  refine lv_iload hx hb dL_law_162 (lv_at hl 0 rfl) ?_
  refine lv_iconst (v := 5) hx hb dL_law_164 (by decide) ?_
  refine lv_iadd hx hb dL_law_165 ?_
  refine tp_i (nI (i + 5)) (nI_add i 5) ?_
  refine sc_i (n := i + 5) hx hb hL hX hbl hbB (by omega) (by omega) dL_law_166 ?_
  refine W.know (fun hg0 => ?_)
  have hp0 := hW.2.2.2.2.2.2.pot
  refine cv_i (As := [.int (xs (i + 1)), .int (xs (i + 2)), .int (xs (i + 3)), .int (xs (i + 4)), .int (xs (i + 5))]) (rest := []) (b := xa) ⟨hx, hb, hml, hown, hts⟩ (c_X8_append hW.1 (w := xa) hW.2.1 hW.2.2.2.2.2.2 (x := (xs (i + 1))) (y := (xs (i + 2))) (z := (xs (i + 3))) (u := (xs (i + 4))) (v := (xs (i + 5)))) (cwV 5 hts gL_law_X8_append rfl rfl rfl hdX8_append_v ⟨Nat.le_of_ble_eq_true rfl, Nat.le_of_ble_eq_true rfl⟩) hN hE hL (rcv9 hN hW.1 hW.2.1.1) rfl rfl hl.1 (Nat.le_of_ble_eq_true rfl) dL_law_167 (show _ ≤ 601024 by omega) (show _ ≤ 7293034 by omega) (fun r0 H1 locs hL hq => ?_)
  refine W.eq (g2 := F0 m 170 ls [.int r0]) rfl ?_
  obtain ⟨κ1, hz, hT1, hR1, hs1⟩ := hq
  have hm1 : T2 κ1 ma 10 12 := hz.1.t2 hW.2.2.1 (by decide)
  refine lv_aload_n hx hb dL_law_170 rfl (lv_at hl 3 rfl) ?_
  refine lv_aload_n hx hb dL_law_171 rfl (lv_at hl 1 rfl) ?_
  refine lv_iload hx hb dL_law_172 (lv_at hl 0 rfl) ?_
  refine lv_iconst (v := 1) hx hb dL_law_174 (by decide) ?_
  refine lv_iadd hx hb dL_law_175 ?_
  refine tp_i (nI (i + 1)) (nI_add i 1) ?_
  refine sc_i (n := i + 1) hx hb hL hX hbl hbB (by omega) (by omega) dL_law_176 ?_
  refine lv_aload_n hx hb dL_law_177 rfl (lv_at hl 1 rfl) ?_
  refine lv_iload hx hb dL_law_178 (lv_at hl 0 rfl) ?_
  refine lv_iconst (v := 2) hx hb dL_law_180 (by decide) ?_
  refine lv_iadd hx hb dL_law_181 ?_
  refine tp_i (nI (i + 2)) (nI_add i 2) ?_
  refine sc_i (n := i + 2) hx hb hL hX hbl hbB (by omega) (by omega) dL_law_182 ?_
  refine lv_aload_n hx hb dL_law_183 rfl (lv_at hl 1 rfl) ?_
  refine lv_iload hx hb dL_law_184 (lv_at hl 0 rfl) ?_
  refine lv_iconst (v := 3) hx hb dL_law_186 (by decide) ?_
  refine lv_iadd hx hb dL_law_187 ?_
  refine tp_i (nI (i + 3)) (nI_add i 3) ?_
  refine sc_i (n := i + 3) hx hb hL hX hbl hbB (by omega) (by omega) dL_law_188 ?_
  refine lv_aload_n hx hb dL_law_189 rfl (lv_at hl 1 rfl) ?_
  refine lv_iload hx hb dL_law_190 (lv_at hl 0 rfl) ?_
  refine lv_iconst (v := 4) hx hb dL_law_192 (by decide) ?_
  refine lv_iadd hx hb dL_law_193 ?_
  refine tp_i (nI (i + 4)) (nI_add i 4) ?_
  refine sc_i (n := i + 4) hx hb hL hX hbl hbB (by omega) (by omega) dL_law_194 ?_
  refine lv_aload_n hx hb dL_law_195 rfl (lv_at hl 1 rfl) ?_
  refine lv_iload hx hb dL_law_196 (lv_at hl 0 rfl) ?_
  refine lv_iconst (v := 5) hx hb dL_law_198 (by decide) ?_
  refine lv_iadd hx hb dL_law_199 ?_
  refine tp_i (nI (i + 5)) (nI_add i 5) ?_
  refine sc_i (n := i + 5) hx hb hL hX hbl hbB (by omega) (by omega) dL_law_200 ?_
  refine W.know (fun hg1 => ?_)
  have hp1 := hR1.pot
  refine cv_i (As := [.int (xs (i + 1)), .int (xs (i + 2)), .int (xs (i + 3)), .int (xs (i + 4)), .int (xs (i + 5))]) (rest := [.int r0]) (b := ma) ⟨hx, hb, hml, hown, hts⟩ (c_X9_append hT1 (w := ma) hm1 (x := (xs (i + 1))) (y := (xs (i + 2))) (z := (xs (i + 3))) (u := (xs (i + 4))) (v := (xs (i + 5)))) (cwV 5 hts gL_law_X9_append rfl rfl rfl hdX9_append_v ⟨Nat.le_of_ble_eq_true rfl, Nat.le_of_ble_eq_true rfl⟩) hN hE hL (rcv10 hN hT1 hm1.1) rfl rfl hl.1 (Nat.le_of_ble_eq_true rfl) dL_law_201 (show _ ≤ 601024 by omega) (show _ ≤ 7293034 by omega) (fun r1 H2 locs hL hq => ?_)
  refine W.eq (g2 := F0 m 204 ls [.int r1, .int r0]) rfl ?_
  obtain ⟨her, κ2, hW2⟩ := hW.ap hz hT1 hR1 hs1 (by decide) hq
  refine lv_icmp_eq (tgt := 757) hx hb dL_law_204 (by decide) (fun _ => ?_) (fun c9 => absurd her c9)
  exact kend _ _ _ _ _ _ _ (k) (n) hL hW2 (by omega) (by omega) (by omega) (by omega) (lv_sub hl [0, 1, 2, 3, 4] rfl)

theorem hdL_load_o : yL_load.cls ≠ "java/lang/invoke/MethodHandle" ∧ yL_load.cls ≠ "java/lang/invoke/VarHandle" ∧ (parseMethodDescriptor yL_load.desc).map (fun d => d.parameters.length) = some 3 := by decide +kernel
theorem hdX9_load_v : yX9_load.cls = RX9 ∧ yX9_load.cls ≠ "java/lang/invoke/MethodHandle" ∧ yX9_load.cls ≠ "java/lang/invoke/VarHandle" ∧ (parseMethodDescriptor yX9_load.desc).map (fun d => d.parameters.length) = some 1 := by decide +kernel
set_option maxHeartbeats 4000000 in
set_option maxRecDepth 100000 in
theorem law_1 {p : Program} {l : Launch} {e : Env} {s : State} {m : MethodId} {args : Array Value} {below : List Frame} {meth : Method} {c : Code} {Q : State → Prop} {D : va_G} {cs : Nat → ClassId} {B0 b L : Nat} {xs : Nat → Int32} (hlt : l.stackTraces = false) (hx : p.tables.exec = Jvm.exec) (hb : c.code = cL_law) (hml : c.maxLocals = 9) (hown : s.vm.findClass RL = some m.cls) (hts : ∀ w ∈ wsL_law, w.before args s = true) (hN : NK D cs s) (hE : EX cs B0 s s.heap) (hX : va_X b L xs s s.heap) (hbl : b < s.heap.size) (hbB : b < B0) (hL30 : L < 2 ^ 30) {xa ma oa : Nat} {i j : Nat} (hi : i + 6 ≤ L) (hj : j ≤ 511)
    (kend : ∀ (κ1 : KM) (T1 : Nat) (C1 : Nat → Nat) (LN1 : Nat → Nat → Nat) (H1 : Heap) (locs1 : List Loc) (ls1 : Array Slot) (k1 n1 : Nat), OkL B0 locs1 → LST D cs B0 κ1 H1 xa ma oa T1 C1 LN1 → T1 ≤ 25000 * (j + 1) → sumN C1 16 ≤ 24 * (j + 1) → 35 * k1 ≤ n1 + 35 * (j + 1) + 35000 → n1 ≤ PotN LN1 + 714 * (j + 1) + 600000 → lv_has ls1 9 [(4, .int (nI i)), (0, .ref b), (1, .ref xa), (2, .ref ma), (3, .ref oa)] → W p l e room_1 s m args below meth c H1 locs1 k1 n1 Q (F0 m 757 ls1 []))
    {κ : KM} {T : Nat} {C : Nat → Nat} {LN : Nat → Nat → Nat} (H : Heap) (locs : List Loc) (ls : Array Slot) (k n : Nat) (hL : OkL B0 locs) (hW : LST D cs B0 κ H xa ma oa T C LN) (hT : T ≤ 25000 * j) (hC : sumN C 16 ≤ 24 * j) (hA1 : 35 * k ≤ n + 35 * j + 35000) (hA2 : n ≤ PotN LN + 714 * j + 600000) (hl : lv_has ls 9 [(4, .int (nI i)), (0, .ref b), (1, .ref xa), (2, .ref ma), (3, .ref oa)]) : W p l e room_1 s m args below meth c H locs k n Q (F0 m 209 ls []) := by
  refine lv_aload_n hx hb dL_law_209 rfl (lv_at hl 2 rfl) ?_
  refine lv_aload_n hx hb dL_law_210 rfl (lv_at hl 1 rfl) ?_
  refine lv_iload hx hb dL_law_211 (lv_at hl 0 rfl) ?_
  refine lv_iconst (v := 1) hx hb dL_law_213 (by decide) ?_
  refine lv_iadd hx hb dL_law_214 ?_
  refine tp_i (nI (i + 1)) (nI_add i 1) ?_
  refine sc_i (n := i + 1) hx hb hL hX hbl hbB (by omega) (by omega) dL_law_215 ?_
  refine lv_aload_n hx hb dL_law_216 rfl (lv_at hl 4 rfl) ?_
  refine W.know (fun hg0 => ?_)
  have hp0 := hW.2.2.2.2.2.2.pot
  refine csw_i (As := [.ref xa, .int (xs (i + 1)), .ref oa]) (rest := []) ⟨hx, hb, hml, hown, hts⟩ (c_L_load hlt hW.1 (w := xa) hW.2.1 (o := oa) hW.2.2.2.1 hW.2.2.2.2.2.2 (by omega) (x := (xs (i + 1)))) (vx_cwSW 3 hts gL_law_L_load rfl rfl rfl hdL_load_o ⟨Nat.le_of_ble_eq_true rfl, Nat.le_of_ble_eq_true rfl⟩) hN hE hL rfl rfl hl.1 (Nat.le_of_ble_eq_true rfl) dL_law_217 (show _ ≤ 601024 by omega) (show _ ≤ 7293034 by omega) (fun r0 H1 locs hL hq => ?_)
  refine W.eq (g2 := F0 m 220 ls [.int r0]) rfl ?_
  obtain ⟨κ1, hz, hT1, hrd1, hs1, C1, LN1, kk, nn, hC1, hR1, hG, h35, hP1⟩ := hq
  refine W.tight (k := k + kk) (n := n + nn) (hg0.tr hG) ?_
  obtain ⟨hm1, hrs1⟩ : T2 κ1 ma 10 12 ∧ sumN C1 16 ≤ 24 * (j + 1) := ⟨hz.t2 hW.2.2.1 (by decide) (by decide), by omega⟩
  refine lv_istore (lv' := [(5, .int r0), (4, .int (nI i)), (0, .ref b), (1, .ref xa), (2, .ref ma), (3, .ref oa)]) hx hb dL_law_220 hl (by decide) rfl (fun ls hl => ?_)
  refine lv_aload_n hx hb dL_law_222 rfl (lv_at hl 4 rfl) ?_
  refine lv_aload_n hx hb dL_law_223 rfl (lv_at hl 2 rfl) ?_
  refine lv_iload hx hb dL_law_224 (lv_at hl 1 rfl) ?_
  refine lv_iconst (v := 1) hx hb dL_law_226 (by decide) ?_
  refine lv_iadd hx hb dL_law_227 ?_
  refine tp_i (nI (i + 1)) (nI_add i 1) ?_
  refine sc_i (n := i + 1) hx hb hL hX hbl hbB (by omega) (by omega) dL_law_228 ?_
  refine W.know (fun hg1 => ?_)
  have hp1 := hR1.pot
  refine cv_i (As := [.int (xs (i + 1))]) (rest := []) (b := ma) ⟨hx, hb, hml, hown, hts⟩ (c_X9_load hT1 (w := ma) hm1 (x := (xs (i + 1)))) (cwV 1 hts gL_law_X9_load rfl rfl rfl hdX9_load_v ⟨Nat.le_of_ble_eq_true rfl, Nat.le_of_ble_eq_true rfl⟩) hN hE hL (rcv10 hN hT1 hm1.1) rfl rfl hl.1 (Nat.le_of_ble_eq_true rfl) dL_law_229 (show _ ≤ 601024 by omega) (show _ ≤ 7293034 by omega) (fun r1 H2 locs hL hq => ?_)
  refine W.eq (g2 := F0 m 232 ls [.int r1]) rfl ?_
  obtain ⟨κ2, hW2⟩ := hW.ld hz hT1 hrd1 hs1 hR1 hq.1 (by decide) hq.2
  refine lv_istore (lv' := [(6, .int r1), (5, .int r0), (4, .int (nI i)), (0, .ref b), (1, .ref xa), (2, .ref ma), (3, .ref oa)]) hx hb dL_law_232 hl (by decide) rfl (fun ls hl => ?_)
  refine lv_goto (tgt := 757) hx hb dL_law_234 (by decide) ?_
  exact kend _ _ _ _ _ _ _ (k + kk) (n + nn) hL hW2 (by omega) (by omega) (by omega) (by omega) (lv_sub hl [2, 3, 4, 5, 6] rfl)

theorem hdX8_errorOffset_v : yX8_errorOffset.cls = RX8 ∧ yX8_errorOffset.cls ≠ "java/lang/invoke/MethodHandle" ∧ yX8_errorOffset.cls ≠ "java/lang/invoke/VarHandle" ∧ (parseMethodDescriptor yX8_errorOffset.desc).map (fun d => d.parameters.length) = some 0 := by decide +kernel
theorem hdX9_errorOffset_v : yX9_errorOffset.cls = RX9 ∧ yX9_errorOffset.cls ≠ "java/lang/invoke/MethodHandle" ∧ yX9_errorOffset.cls ≠ "java/lang/invoke/VarHandle" ∧ (parseMethodDescriptor yX9_errorOffset.desc).map (fun d => d.parameters.length) = some 0 := by decide +kernel
set_option maxHeartbeats 4000000 in
set_option maxRecDepth 100000 in
theorem law_2 {p : Program} {l : Launch} {e : Env} {s : State} {m : MethodId} {args : Array Value} {below : List Frame} {meth : Method} {c : Code} {Q : State → Prop} {D : va_G} {cs : Nat → ClassId} {B0 b L : Nat} {xs : Nat → Int32} (hlt : l.stackTraces = false) (hx : p.tables.exec = Jvm.exec) (hb : c.code = cL_law) (hml : c.maxLocals = 9) (hown : s.vm.findClass RL = some m.cls) (hts : ∀ w ∈ wsL_law, w.before args s = true) (hN : NK D cs s) (hE : EX cs B0 s s.heap) (hX : va_X b L xs s s.heap) (hbl : b < s.heap.size) (hbB : b < B0) (hL30 : L < 2 ^ 30) {xa ma oa : Nat} {i j : Nat} (hi : i + 6 ≤ L) (hj : j ≤ 511)
    (kend : ∀ (κ1 : KM) (T1 : Nat) (C1 : Nat → Nat) (LN1 : Nat → Nat → Nat) (H1 : Heap) (locs1 : List Loc) (ls1 : Array Slot) (k1 n1 : Nat), OkL B0 locs1 → LST D cs B0 κ1 H1 xa ma oa T1 C1 LN1 → T1 ≤ 25000 * (j + 1) → sumN C1 16 ≤ 24 * (j + 1) → 35 * k1 ≤ n1 + 35 * (j + 1) + 35000 → n1 ≤ PotN LN1 + 714 * (j + 1) + 600000 → lv_has ls1 9 [(4, .int (nI i)), (0, .ref b), (1, .ref xa), (2, .ref ma), (3, .ref oa)] → W p l e room_1 s m args below meth c H1 locs1 k1 n1 Q (F0 m 757 ls1 []))
    {κ : KM} {T : Nat} {C : Nat → Nat} {LN : Nat → Nat → Nat} (H : Heap) (locs : List Loc) (ls : Array Slot) (k n : Nat) (hL : OkL B0 locs) (hW : LST D cs B0 κ H xa ma oa T C LN) (hT : T ≤ 25000 * j) (hC : sumN C 16 ≤ 24 * j) (hA1 : 35 * k ≤ n + 35 * j + 35000) (hA2 : n ≤ PotN LN + 714 * j + 600000) (hl : lv_has ls 9 [(4, .int (nI i)), (0, .ref b), (1, .ref xa), (2, .ref ma), (3, .ref oa)]) : W p l e room_1 s m args below meth c H locs k n Q (F0 m 237 ls []) := by
  refine lv_aload_n hx hb dL_law_237 rfl (lv_at hl 2 rfl) ?_
  refine W.know (fun hg0 => ?_)
  have hp0 := hW.2.2.2.2.2.2.pot
  refine cv_i (As := []) (rest := []) (b := xa) ⟨hx, hb, hml, hown, hts⟩ (c_X8_errorOffset hW.1 (w := xa) hW.2.1 hW.2.2.2.2.2.2) (cwV 0 hts gL_law_X8_errorOffset rfl rfl rfl hdX8_errorOffset_v ⟨Nat.le_of_ble_eq_true rfl, Nat.le_of_ble_eq_true rfl⟩) hN hE hL (rcv9 hN hW.1 hW.2.1.1) rfl rfl hl.1 (Nat.le_of_ble_eq_true rfl) dL_law_238 (show _ ≤ 601024 by omega) (show _ ≤ 7293034 by omega) (fun r0 H1 locs hL hq => ?_)
  refine W.eq (g2 := F0 m 241 ls [.int r0]) rfl ?_
  obtain ⟨κ1, hz, hT1, C1, LN1, kk, nn, hC1, hR1, hG, h35, hP1⟩ := hq
  have hW1 := hW.kw hz hT1 hR1
  refine W.tight (k := k + kk) (n := n + nn) (hg0.tr hG) ?_
  refine lv_pop hx hb dL_law_241 rfl ?_
  refine lv_aload_n hx hb dL_law_242 rfl (lv_at hl 3 rfl) ?_
  refine W.know (fun hg1 => ?_)
  have hp1 := hW1.2.2.2.2.2.2.pot
  refine cv_i (As := []) (rest := []) (b := ma) ⟨hx, hb, hml, hown, hts⟩ (c_X9_errorOffset hW1.1 (w := ma) hW1.2.2.1) (cwV 0 hts gL_law_X9_errorOffset rfl rfl rfl hdX9_errorOffset_v ⟨Nat.le_of_ble_eq_true rfl, Nat.le_of_ble_eq_true rfl⟩) hN hE hL (rcv10 hN hW1.1 hW1.2.2.1.1) rfl rfl hl.1 (Nat.le_of_ble_eq_true rfl) dL_law_243 (show _ ≤ 601024 by omega) (show _ ≤ 7293034 by omega) (fun r1 H2 locs hL hq => ?_)
  refine W.eq (g2 := F0 m 246 ls [.int r1]) rfl ?_
  have hW2 := hW1.md hq.1 hq.2 (by decide)
  refine lv_pop hx hb dL_law_246 rfl ?_
  refine lv_goto (tgt := 757) hx hb dL_law_247 (by decide) ?_
  exact kend _ _ _ _ _ _ _ (k + kk) (n + nn) hL hW2 (by omega) (by omega) (by omega) (by omega) (lv_sub hl [0, 1, 2, 3, 4] rfl)

theorem hdL_state_o : yL_state.cls ≠ "java/lang/invoke/MethodHandle" ∧ yL_state.cls ≠ "java/lang/invoke/VarHandle" ∧ (parseMethodDescriptor yL_state.desc).map (fun d => d.parameters.length) = some 3 := by decide +kernel
theorem hdX9_state_v : yX9_state.cls = RX9 ∧ yX9_state.cls ≠ "java/lang/invoke/MethodHandle" ∧ yX9_state.cls ≠ "java/lang/invoke/VarHandle" ∧ (parseMethodDescriptor yX9_state.desc).map (fun d => d.parameters.length) = some 1 := by decide +kernel
set_option maxHeartbeats 4000000 in
set_option maxRecDepth 100000 in
theorem law_3 {p : Program} {l : Launch} {e : Env} {s : State} {m : MethodId} {args : Array Value} {below : List Frame} {meth : Method} {c : Code} {Q : State → Prop} {D : va_G} {cs : Nat → ClassId} {B0 b L : Nat} {xs : Nat → Int32} (hlt : l.stackTraces = false) (hx : p.tables.exec = Jvm.exec) (hb : c.code = cL_law) (hml : c.maxLocals = 9) (hown : s.vm.findClass RL = some m.cls) (hts : ∀ w ∈ wsL_law, w.before args s = true) (hN : NK D cs s) (hE : EX cs B0 s s.heap) (hX : va_X b L xs s s.heap) (hbl : b < s.heap.size) (hbB : b < B0) (hL30 : L < 2 ^ 30) {xa ma oa : Nat} {i j : Nat} (hi : i + 6 ≤ L) (hj : j ≤ 511)
    (kend : ∀ (κ1 : KM) (T1 : Nat) (C1 : Nat → Nat) (LN1 : Nat → Nat → Nat) (H1 : Heap) (locs1 : List Loc) (ls1 : Array Slot) (k1 n1 : Nat), OkL B0 locs1 → LST D cs B0 κ1 H1 xa ma oa T1 C1 LN1 → T1 ≤ 25000 * (j + 1) → sumN C1 16 ≤ 24 * (j + 1) → 35 * k1 ≤ n1 + 35 * (j + 1) + 35000 → n1 ≤ PotN LN1 + 714 * (j + 1) + 600000 → lv_has ls1 9 [(4, .int (nI i)), (0, .ref b), (1, .ref xa), (2, .ref ma), (3, .ref oa)] → W p l e room_1 s m args below meth c H1 locs1 k1 n1 Q (F0 m 757 ls1 []))
    {κ : KM} {T : Nat} {C : Nat → Nat} {LN : Nat → Nat → Nat} (H : Heap) (locs : List Loc) (ls : Array Slot) (k n : Nat) (hL : OkL B0 locs) (hW : LST D cs B0 κ H xa ma oa T C LN) (hT : T ≤ 25000 * j) (hC : sumN C 16 ≤ 24 * j) (hA1 : 35 * k ≤ n + 35 * j + 35000) (hA2 : n ≤ PotN LN + 714 * j + 600000) (hl : lv_has ls 9 [(4, .int (nI i)), (0, .ref b), (1, .ref xa), (2, .ref ma), (3, .ref oa)]) : W p l e room_1 s m args below meth c H locs k n Q (F0 m 250 ls []) := by
  refine lv_aload_n hx hb dL_law_250 rfl (lv_at hl 2 rfl) ?_
  refine lv_aload_n hx hb dL_law_251 rfl (lv_at hl 1 rfl) ?_
  refine lv_iload hx hb dL_law_252 (lv_at hl 0 rfl) ?_
  refine lv_iconst (v := 1) hx hb dL_law_254 (by decide) ?_
  refine lv_iadd hx hb dL_law_255 ?_
  refine tp_i (nI (i + 1)) (nI_add i 1) ?_
  refine sc_i (n := i + 1) hx hb hL hX hbl hbB (by omega) (by omega) dL_law_256 ?_
  refine lv_aload_n hx hb dL_law_257 rfl (lv_at hl 4 rfl) ?_
  refine W.know (fun hg0 => ?_)
  have hp0 := hW.2.2.2.2.2.2.pot
  refine csw_i (As := [.ref xa, .int (xs (i + 1)), .ref oa]) (rest := []) ⟨hx, hb, hml, hown, hts⟩ (c_L_state hlt hW.1 (w := xa) hW.2.1 (o := oa) hW.2.2.2.1 hW.2.2.2.2.2.2 (by omega) (x := (xs (i + 1)))) (vx_cwSW 3 hts gL_law_L_state rfl rfl rfl hdL_state_o ⟨Nat.le_of_ble_eq_true rfl, Nat.le_of_ble_eq_true rfl⟩) hN hE hL rfl rfl hl.1 (Nat.le_of_ble_eq_true rfl) dL_law_258 (show _ ≤ 601024 by omega) (show _ ≤ 7293034 by omega) (fun r0 H1 locs hL hq => ?_)
  refine W.eq (g2 := F0 m 261 ls [.int r0]) rfl ?_
  obtain ⟨κ1, hz, hT1, hrd1, hs1, C1, LN1, kk, nn, hC1, hR1, hG, h35, hP1⟩ := hq
  have hW1 := hW.cl hz hT1 hrd1 hs1 hR1
  refine W.tight (k := k + kk) (n := n + nn) (hg0.tr hG) ?_
  refine lv_istore (lv' := [(5, .int r0), (4, .int (nI i)), (0, .ref b), (1, .ref xa), (2, .ref ma), (3, .ref oa)]) hx hb dL_law_261 hl (by decide) rfl (fun ls hl => ?_)
  refine lv_aload_n hx hb dL_law_263 rfl (lv_at hl 4 rfl) ?_
  refine lv_aload_n hx hb dL_law_264 rfl (lv_at hl 2 rfl) ?_
  refine lv_iload hx hb dL_law_265 (lv_at hl 1 rfl) ?_
  refine lv_iconst (v := 1) hx hb dL_law_267 (by decide) ?_
  refine lv_iadd hx hb dL_law_268 ?_
  refine tp_i (nI (i + 1)) (nI_add i 1) ?_
  refine sc_i (n := i + 1) hx hb hL hX hbl hbB (by omega) (by omega) dL_law_269 ?_
  refine W.know (fun hg1 => ?_)
  have hp1 := hW1.2.2.2.2.2.2.pot
  refine cv_i (As := [.int (xs (i + 1))]) (rest := []) (b := ma) ⟨hx, hb, hml, hown, hts⟩ (c_X9_state hW1.1 (w := ma) hW1.2.2.1 (x := (xs (i + 1)))) (cwV 1 hts gL_law_X9_state rfl rfl rfl hdX9_state_v ⟨Nat.le_of_ble_eq_true rfl, Nat.le_of_ble_eq_true rfl⟩) hN hE hL (rcv10 hN hW1.1 hW1.2.2.1.1) rfl rfl hl.1 (Nat.le_of_ble_eq_true rfl) dL_law_270 (show _ ≤ 601024 by omega) (show _ ≤ 7293034 by omega) (fun r1 H2 locs hL hq => ?_)
  refine W.eq (g2 := F0 m 273 ls [.int r1]) rfl ?_
  have hW2 := hW1.md hq.1 hq.2 (by decide)
  refine lv_istore (lv' := [(6, .int r1), (5, .int r0), (4, .int (nI i)), (0, .ref b), (1, .ref xa), (2, .ref ma), (3, .ref oa)]) hx hb dL_law_273 hl (by decide) rfl (fun ls hl => ?_)
  refine lv_goto (tgt := 757) hx hb dL_law_275 (by decide) ?_
  exact kend _ _ _ _ _ _ _ (k + kk) (n + nn) hL hW2 (by omega) (by omega) (by omega) (by omega) (lv_sub hl [2, 3, 4, 5, 6] rfl)

theorem hdL_player_o : yL_player.cls ≠ "java/lang/invoke/MethodHandle" ∧ yL_player.cls ≠ "java/lang/invoke/VarHandle" ∧ (parseMethodDescriptor yL_player.desc).map (fun d => d.parameters.length) = some 4 := by decide +kernel
theorem hdX9_player_v : yX9_player.cls = RX9 ∧ yX9_player.cls ≠ "java/lang/invoke/MethodHandle" ∧ yX9_player.cls ≠ "java/lang/invoke/VarHandle" ∧ (parseMethodDescriptor yX9_player.desc).map (fun d => d.parameters.length) = some 2 := by decide +kernel
set_option maxHeartbeats 4000000 in
set_option maxRecDepth 100000 in
theorem law_4 {p : Program} {l : Launch} {e : Env} {s : State} {m : MethodId} {args : Array Value} {below : List Frame} {meth : Method} {c : Code} {Q : State → Prop} {D : va_G} {cs : Nat → ClassId} {B0 b L : Nat} {xs : Nat → Int32} (hlt : l.stackTraces = false) (hx : p.tables.exec = Jvm.exec) (hb : c.code = cL_law) (hml : c.maxLocals = 9) (hown : s.vm.findClass RL = some m.cls) (hts : ∀ w ∈ wsL_law, w.before args s = true) (hN : NK D cs s) (hE : EX cs B0 s s.heap) (hX : va_X b L xs s s.heap) (hbl : b < s.heap.size) (hbB : b < B0) (hL30 : L < 2 ^ 30) {xa ma oa : Nat} {i j : Nat} (hi : i + 6 ≤ L) (hj : j ≤ 511)
    (kend : ∀ (κ1 : KM) (T1 : Nat) (C1 : Nat → Nat) (LN1 : Nat → Nat → Nat) (H1 : Heap) (locs1 : List Loc) (ls1 : Array Slot) (k1 n1 : Nat), OkL B0 locs1 → LST D cs B0 κ1 H1 xa ma oa T1 C1 LN1 → T1 ≤ 25000 * (j + 1) → sumN C1 16 ≤ 24 * (j + 1) → 35 * k1 ≤ n1 + 35 * (j + 1) + 35000 → n1 ≤ PotN LN1 + 714 * (j + 1) + 600000 → lv_has ls1 9 [(4, .int (nI i)), (0, .ref b), (1, .ref xa), (2, .ref ma), (3, .ref oa)] → W p l e room_1 s m args below meth c H1 locs1 k1 n1 Q (F0 m 757 ls1 []))
    {κ : KM} {T : Nat} {C : Nat → Nat} {LN : Nat → Nat → Nat} (H : Heap) (locs : List Loc) (ls : Array Slot) (k n : Nat) (hL : OkL B0 locs) (hW : LST D cs B0 κ H xa ma oa T C LN) (hT : T ≤ 25000 * j) (hC : sumN C 16 ≤ 24 * j) (hA1 : 35 * k ≤ n + 35 * j + 35000) (hA2 : n ≤ PotN LN + 714 * j + 600000) (hl : lv_has ls 9 [(4, .int (nI i)), (0, .ref b), (1, .ref xa), (2, .ref ma), (3, .ref oa)]) : W p l e room_1 s m args below meth c H locs k n Q (F0 m 278 ls []) := by
  refine lv_aload_n hx hb dL_law_278 rfl (lv_at hl 2 rfl) ?_
  refine lv_aload_n hx hb dL_law_279 rfl (lv_at hl 1 rfl) ?_
  refine lv_iload hx hb dL_law_280 (lv_at hl 0 rfl) ?_
  refine lv_iconst (v := 1) hx hb dL_law_282 (by decide) ?_
  refine lv_iadd hx hb dL_law_283 ?_
  refine tp_i (nI (i + 1)) (nI_add i 1) ?_
  refine sc_i (n := i + 1) hx hb hL hX hbl hbB (by omega) (by omega) dL_law_284 ?_
  refine lv_aload_n hx hb dL_law_285 rfl (lv_at hl 1 rfl) ?_
  refine lv_iload hx hb dL_law_286 (lv_at hl 0 rfl) ?_
  refine lv_iconst (v := 2) hx hb dL_law_288 (by decide) ?_
  refine lv_iadd hx hb dL_law_289 ?_
  refine tp_i (nI (i + 2)) (nI_add i 2) ?_
  refine sc_i (n := i + 2) hx hb hL hX hbl hbB (by omega) (by omega) dL_law_290 ?_
  refine lv_aload_n hx hb dL_law_291 rfl (lv_at hl 4 rfl) ?_
  refine W.know (fun hg0 => ?_)
  have hp0 := hW.2.2.2.2.2.2.pot
  refine csw_i (As := [.ref xa, .int (xs (i + 1)), .int (xs (i + 2)), .ref oa]) (rest := []) ⟨hx, hb, hml, hown, hts⟩ (c_L_player hlt hW.1 (w := xa) hW.2.1 (o := oa) hW.2.2.2.1 hW.2.2.2.2.2.2 (by omega) (x := (xs (i + 1))) (y := (xs (i + 2)))) (vx_cwSW 4 hts gL_law_L_player rfl rfl rfl hdL_player_o ⟨Nat.le_of_ble_eq_true rfl, Nat.le_of_ble_eq_true rfl⟩) hN hE hL rfl rfl hl.1 (Nat.le_of_ble_eq_true rfl) dL_law_292 (show _ ≤ 601024 by omega) (show _ ≤ 7293034 by omega) (fun r0 H1 locs hL hq => ?_)
  refine W.eq (g2 := F0 m 295 ls [.int r0]) rfl ?_
  obtain ⟨κ1, hz, hT1, hrd1, hs1, C1, LN1, kk, nn, hC1, hR1, hG, h35, hP1⟩ := hq
  have hW1 := hW.cl hz hT1 hrd1 hs1 hR1
  refine W.tight (k := k + kk) (n := n + nn) (hg0.tr hG) ?_
  refine lv_istore (lv' := [(5, .int r0), (4, .int (nI i)), (0, .ref b), (1, .ref xa), (2, .ref ma), (3, .ref oa)]) hx hb dL_law_295 hl (by decide) rfl (fun ls hl => ?_)
  refine lv_aload_n hx hb dL_law_297 rfl (lv_at hl 4 rfl) ?_
  refine lv_aload_n hx hb dL_law_298 rfl (lv_at hl 2 rfl) ?_
  refine lv_iload hx hb dL_law_299 (lv_at hl 1 rfl) ?_
  refine lv_iconst (v := 1) hx hb dL_law_301 (by decide) ?_
  refine lv_iadd hx hb dL_law_302 ?_
  refine tp_i (nI (i + 1)) (nI_add i 1) ?_
  refine sc_i (n := i + 1) hx hb hL hX hbl hbB (by omega) (by omega) dL_law_303 ?_
  refine lv_aload_n hx hb dL_law_304 rfl (lv_at hl 2 rfl) ?_
  refine lv_iload hx hb dL_law_305 (lv_at hl 1 rfl) ?_
  refine lv_iconst (v := 2) hx hb dL_law_307 (by decide) ?_
  refine lv_iadd hx hb dL_law_308 ?_
  refine tp_i (nI (i + 2)) (nI_add i 2) ?_
  refine sc_i (n := i + 2) hx hb hL hX hbl hbB (by omega) (by omega) dL_law_309 ?_
  refine W.know (fun hg1 => ?_)
  have hp1 := hW1.2.2.2.2.2.2.pot
  refine cv_i (As := [.int (xs (i + 1)), .int (xs (i + 2))]) (rest := []) (b := ma) ⟨hx, hb, hml, hown, hts⟩ (c_X9_player hW1.1 (w := ma) hW1.2.2.1 (x := (xs (i + 1))) (y := (xs (i + 2)))) (cwV 2 hts gL_law_X9_player rfl rfl rfl hdX9_player_v ⟨Nat.le_of_ble_eq_true rfl, Nat.le_of_ble_eq_true rfl⟩) hN hE hL (rcv10 hN hW1.1 hW1.2.2.1.1) rfl rfl hl.1 (Nat.le_of_ble_eq_true rfl) dL_law_310 (show _ ≤ 601024 by omega) (show _ ≤ 7293034 by omega) (fun r1 H2 locs hL hq => ?_)
  refine W.eq (g2 := F0 m 313 ls [.int r1]) rfl ?_
  have hW2 := hW1.md hq.1 hq.2 (by decide)
  refine lv_istore (lv' := [(6, .int r1), (5, .int r0), (4, .int (nI i)), (0, .ref b), (1, .ref xa), (2, .ref ma), (3, .ref oa)]) hx hb dL_law_313 hl (by decide) rfl (fun ls hl => ?_)
  refine lv_goto (tgt := 757) hx hb dL_law_315 (by decide) ?_
  exact kend _ _ _ _ _ _ _ (k + kk) (n + nn) hL hW2 (by omega) (by omega) (by omega) (by omega) (lv_sub hl [2, 3, 4, 5, 6] rfl)

theorem hdL_link_o : yL_link.cls ≠ "java/lang/invoke/MethodHandle" ∧ yL_link.cls ≠ "java/lang/invoke/VarHandle" ∧ (parseMethodDescriptor yL_link.desc).map (fun d => d.parameters.length) = some 4 := by decide +kernel
theorem hdX9_link_v : yX9_link.cls = RX9 ∧ yX9_link.cls ≠ "java/lang/invoke/MethodHandle" ∧ yX9_link.cls ≠ "java/lang/invoke/VarHandle" ∧ (parseMethodDescriptor yX9_link.desc).map (fun d => d.parameters.length) = some 2 := by decide +kernel
set_option maxHeartbeats 4000000 in
set_option maxRecDepth 100000 in
theorem law_5 {p : Program} {l : Launch} {e : Env} {s : State} {m : MethodId} {args : Array Value} {below : List Frame} {meth : Method} {c : Code} {Q : State → Prop} {D : va_G} {cs : Nat → ClassId} {B0 b L : Nat} {xs : Nat → Int32} (hlt : l.stackTraces = false) (hx : p.tables.exec = Jvm.exec) (hb : c.code = cL_law) (hml : c.maxLocals = 9) (hown : s.vm.findClass RL = some m.cls) (hts : ∀ w ∈ wsL_law, w.before args s = true) (hN : NK D cs s) (hE : EX cs B0 s s.heap) (hX : va_X b L xs s s.heap) (hbl : b < s.heap.size) (hbB : b < B0) (hL30 : L < 2 ^ 30) {xa ma oa : Nat} {i j : Nat} (hi : i + 6 ≤ L) (hj : j ≤ 511)
    (kend : ∀ (κ1 : KM) (T1 : Nat) (C1 : Nat → Nat) (LN1 : Nat → Nat → Nat) (H1 : Heap) (locs1 : List Loc) (ls1 : Array Slot) (k1 n1 : Nat), OkL B0 locs1 → LST D cs B0 κ1 H1 xa ma oa T1 C1 LN1 → T1 ≤ 25000 * (j + 1) → sumN C1 16 ≤ 24 * (j + 1) → 35 * k1 ≤ n1 + 35 * (j + 1) + 35000 → n1 ≤ PotN LN1 + 714 * (j + 1) + 600000 → lv_has ls1 9 [(4, .int (nI i)), (0, .ref b), (1, .ref xa), (2, .ref ma), (3, .ref oa)] → W p l e room_1 s m args below meth c H1 locs1 k1 n1 Q (F0 m 757 ls1 []))
    {κ : KM} {T : Nat} {C : Nat → Nat} {LN : Nat → Nat → Nat} (H : Heap) (locs : List Loc) (ls : Array Slot) (k n : Nat) (hL : OkL B0 locs) (hW : LST D cs B0 κ H xa ma oa T C LN) (hT : T ≤ 25000 * j) (hC : sumN C 16 ≤ 24 * j) (hA1 : 35 * k ≤ n + 35 * j + 35000) (hA2 : n ≤ PotN LN + 714 * j + 600000) (hl : lv_has ls 9 [(4, .int (nI i)), (0, .ref b), (1, .ref xa), (2, .ref ma), (3, .ref oa)]) : W p l e room_1 s m args below meth c H locs k n Q (F0 m 318 ls []) := by
  refine lv_aload_n hx hb dL_law_318 rfl (lv_at hl 2 rfl) ?_
  refine lv_aload_n hx hb dL_law_319 rfl (lv_at hl 1 rfl) ?_
  refine lv_iload hx hb dL_law_320 (lv_at hl 0 rfl) ?_
  refine lv_iconst (v := 1) hx hb dL_law_322 (by decide) ?_
  refine lv_iadd hx hb dL_law_323 ?_
  refine tp_i (nI (i + 1)) (nI_add i 1) ?_
  refine sc_i (n := i + 1) hx hb hL hX hbl hbB (by omega) (by omega) dL_law_324 ?_
  refine lv_aload_n hx hb dL_law_325 rfl (lv_at hl 1 rfl) ?_
  refine lv_iload hx hb dL_law_326 (lv_at hl 0 rfl) ?_
  refine lv_iconst (v := 2) hx hb dL_law_328 (by decide) ?_
  refine lv_iadd hx hb dL_law_329 ?_
  refine tp_i (nI (i + 2)) (nI_add i 2) ?_
  refine sc_i (n := i + 2) hx hb hL hX hbl hbB (by omega) (by omega) dL_law_330 ?_
  refine lv_aload_n hx hb dL_law_331 rfl (lv_at hl 4 rfl) ?_
  refine W.know (fun hg0 => ?_)
  have hp0 := hW.2.2.2.2.2.2.pot
  refine csw_i (As := [.ref xa, .int (xs (i + 1)), .int (xs (i + 2)), .ref oa]) (rest := []) ⟨hx, hb, hml, hown, hts⟩ (c_L_link hlt hW.1 (w := xa) hW.2.1 (o := oa) hW.2.2.2.1 hW.2.2.2.2.2.2 (by omega) (x := (xs (i + 1))) (y := (xs (i + 2)))) (vx_cwSW 4 hts gL_law_L_link rfl rfl rfl hdL_link_o ⟨Nat.le_of_ble_eq_true rfl, Nat.le_of_ble_eq_true rfl⟩) hN hE hL rfl rfl hl.1 (Nat.le_of_ble_eq_true rfl) dL_law_332 (show _ ≤ 601024 by omega) (show _ ≤ 7293034 by omega) (fun r0 H1 locs hL hq => ?_)
  refine W.eq (g2 := F0 m 335 ls [.int r0]) rfl ?_
  obtain ⟨κ1, hz, hT1, hrd1, hs1, C1, LN1, kk, nn, hC1, hR1, hG, h35, hP1⟩ := hq
  have hW1 := hW.cl hz hT1 hrd1 hs1 hR1
  refine W.tight (k := k + kk) (n := n + nn) (hg0.tr hG) ?_
  refine lv_istore (lv' := [(5, .int r0), (4, .int (nI i)), (0, .ref b), (1, .ref xa), (2, .ref ma), (3, .ref oa)]) hx hb dL_law_335 hl (by decide) rfl (fun ls hl => ?_)
  refine lv_aload_n hx hb dL_law_337 rfl (lv_at hl 4 rfl) ?_
  refine lv_aload_n hx hb dL_law_338 rfl (lv_at hl 2 rfl) ?_
  refine lv_iload hx hb dL_law_339 (lv_at hl 1 rfl) ?_
  refine lv_iconst (v := 1) hx hb dL_law_341 (by decide) ?_
  refine lv_iadd hx hb dL_law_342 ?_
  refine tp_i (nI (i + 1)) (nI_add i 1) ?_
  refine sc_i (n := i + 1) hx hb hL hX hbl hbB (by omega) (by omega) dL_law_343 ?_
  refine lv_aload_n hx hb dL_law_344 rfl (lv_at hl 2 rfl) ?_
  refine lv_iload hx hb dL_law_345 (lv_at hl 1 rfl) ?_
  refine lv_iconst (v := 2) hx hb dL_law_347 (by decide) ?_
  refine lv_iadd hx hb dL_law_348 ?_
  refine tp_i (nI (i + 2)) (nI_add i 2) ?_
  refine sc_i (n := i + 2) hx hb hL hX hbl hbB (by omega) (by omega) dL_law_349 ?_
  refine W.know (fun hg1 => ?_)
  have hp1 := hW1.2.2.2.2.2.2.pot
  refine cv_i (As := [.int (xs (i + 1)), .int (xs (i + 2))]) (rest := []) (b := ma) ⟨hx, hb, hml, hown, hts⟩ (c_X9_link hW1.1 (w := ma) hW1.2.2.1 (x := (xs (i + 1))) (y := (xs (i + 2)))) (cwV 2 hts gL_law_X9_link rfl rfl rfl hdX9_link_v ⟨Nat.le_of_ble_eq_true rfl, Nat.le_of_ble_eq_true rfl⟩) hN hE hL (rcv10 hN hW1.1 hW1.2.2.1.1) rfl rfl hl.1 (Nat.le_of_ble_eq_true rfl) dL_law_350 (show _ ≤ 601024 by omega) (show _ ≤ 7293034 by omega) (fun r1 H2 locs hL hq => ?_)
  refine W.eq (g2 := F0 m 353 ls [.int r1]) rfl ?_
  have hW2 := hW1.md hq.1 hq.2 (by decide)
  refine lv_istore (lv' := [(6, .int r1), (5, .int r0), (4, .int (nI i)), (0, .ref b), (1, .ref xa), (2, .ref ma), (3, .ref oa)]) hx hb dL_law_353 hl (by decide) rfl (fun ls hl => ?_)
  refine lv_goto (tgt := 757) hx hb dL_law_355 (by decide) ?_
  exact kend _ _ _ _ _ _ _ (k + kk) (n + nn) hL hW2 (by omega) (by omega) (by omega) (by omega) (lv_sub hl [2, 3, 4, 5, 6] rfl)

theorem hdL_message_o : yL_message.cls ≠ "java/lang/invoke/MethodHandle" ∧ yL_message.cls ≠ "java/lang/invoke/VarHandle" ∧ (parseMethodDescriptor yL_message.desc).map (fun d => d.parameters.length) = some 4 := by decide +kernel
theorem hdX9_message_v : yX9_message.cls = RX9 ∧ yX9_message.cls ≠ "java/lang/invoke/MethodHandle" ∧ yX9_message.cls ≠ "java/lang/invoke/VarHandle" ∧ (parseMethodDescriptor yX9_message.desc).map (fun d => d.parameters.length) = some 2 := by decide +kernel
set_option maxHeartbeats 4000000 in
set_option maxRecDepth 100000 in
theorem law_6 {p : Program} {l : Launch} {e : Env} {s : State} {m : MethodId} {args : Array Value} {below : List Frame} {meth : Method} {c : Code} {Q : State → Prop} {D : va_G} {cs : Nat → ClassId} {B0 b L : Nat} {xs : Nat → Int32} (hlt : l.stackTraces = false) (hx : p.tables.exec = Jvm.exec) (hb : c.code = cL_law) (hml : c.maxLocals = 9) (hown : s.vm.findClass RL = some m.cls) (hts : ∀ w ∈ wsL_law, w.before args s = true) (hN : NK D cs s) (hE : EX cs B0 s s.heap) (hX : va_X b L xs s s.heap) (hbl : b < s.heap.size) (hbB : b < B0) (hL30 : L < 2 ^ 30) {xa ma oa : Nat} {i j : Nat} (hi : i + 6 ≤ L) (hj : j ≤ 511)
    (kend : ∀ (κ1 : KM) (T1 : Nat) (C1 : Nat → Nat) (LN1 : Nat → Nat → Nat) (H1 : Heap) (locs1 : List Loc) (ls1 : Array Slot) (k1 n1 : Nat), OkL B0 locs1 → LST D cs B0 κ1 H1 xa ma oa T1 C1 LN1 → T1 ≤ 25000 * (j + 1) → sumN C1 16 ≤ 24 * (j + 1) → 35 * k1 ≤ n1 + 35 * (j + 1) + 35000 → n1 ≤ PotN LN1 + 714 * (j + 1) + 600000 → lv_has ls1 9 [(4, .int (nI i)), (0, .ref b), (1, .ref xa), (2, .ref ma), (3, .ref oa)] → W p l e room_1 s m args below meth c H1 locs1 k1 n1 Q (F0 m 757 ls1 []))
    {κ : KM} {T : Nat} {C : Nat → Nat} {LN : Nat → Nat → Nat} (H : Heap) (locs : List Loc) (ls : Array Slot) (k n : Nat) (hL : OkL B0 locs) (hW : LST D cs B0 κ H xa ma oa T C LN) (hT : T ≤ 25000 * j) (hC : sumN C 16 ≤ 24 * j) (hA1 : 35 * k ≤ n + 35 * j + 35000) (hA2 : n ≤ PotN LN + 714 * j + 600000) (hl : lv_has ls 9 [(4, .int (nI i)), (0, .ref b), (1, .ref xa), (2, .ref ma), (3, .ref oa)]) : W p l e room_1 s m args below meth c H locs k n Q (F0 m 358 ls []) := by
  refine lv_aload_n hx hb dL_law_358 rfl (lv_at hl 2 rfl) ?_
  refine lv_aload_n hx hb dL_law_359 rfl (lv_at hl 1 rfl) ?_
  refine lv_iload hx hb dL_law_360 (lv_at hl 0 rfl) ?_
  refine lv_iconst (v := 1) hx hb dL_law_362 (by decide) ?_
  refine lv_iadd hx hb dL_law_363 ?_
  refine tp_i (nI (i + 1)) (nI_add i 1) ?_
  refine sc_i (n := i + 1) hx hb hL hX hbl hbB (by omega) (by omega) dL_law_364 ?_
  refine lv_aload_n hx hb dL_law_365 rfl (lv_at hl 1 rfl) ?_
  refine lv_iload hx hb dL_law_366 (lv_at hl 0 rfl) ?_
  refine lv_iconst (v := 2) hx hb dL_law_368 (by decide) ?_
  refine lv_iadd hx hb dL_law_369 ?_
  refine tp_i (nI (i + 2)) (nI_add i 2) ?_
  refine sc_i (n := i + 2) hx hb hL hX hbl hbB (by omega) (by omega) dL_law_370 ?_
  refine lv_aload_n hx hb dL_law_371 rfl (lv_at hl 4 rfl) ?_
  refine W.know (fun hg0 => ?_)
  have hp0 := hW.2.2.2.2.2.2.pot
  refine csw_i (As := [.ref xa, .int (xs (i + 1)), .int (xs (i + 2)), .ref oa]) (rest := []) ⟨hx, hb, hml, hown, hts⟩ (c_L_message hlt hW.1 (w := xa) hW.2.1 (o := oa) hW.2.2.2.1 hW.2.2.2.2.2.2 (by omega) (x := (xs (i + 1))) (y := (xs (i + 2)))) (vx_cwSW 4 hts gL_law_L_message rfl rfl rfl hdL_message_o ⟨Nat.le_of_ble_eq_true rfl, Nat.le_of_ble_eq_true rfl⟩) hN hE hL rfl rfl hl.1 (Nat.le_of_ble_eq_true rfl) dL_law_372 (show _ ≤ 601024 by omega) (show _ ≤ 7293034 by omega) (fun r0 H1 locs hL hq => ?_)
  refine W.eq (g2 := F0 m 375 ls [.int r0]) rfl ?_
  obtain ⟨κ1, hz, hT1, hrd1, hs1, C1, LN1, kk, nn, hC1, hR1, hG, h35, hP1⟩ := hq
  have hW1 := hW.cl hz hT1 hrd1 hs1 hR1
  refine W.tight (k := k + kk) (n := n + nn) (hg0.tr hG) ?_
  refine lv_istore (lv' := [(5, .int r0), (4, .int (nI i)), (0, .ref b), (1, .ref xa), (2, .ref ma), (3, .ref oa)]) hx hb dL_law_375 hl (by decide) rfl (fun ls hl => ?_)
  refine lv_aload_n hx hb dL_law_377 rfl (lv_at hl 4 rfl) ?_
  refine lv_aload_n hx hb dL_law_378 rfl (lv_at hl 2 rfl) ?_
  refine lv_iload hx hb dL_law_379 (lv_at hl 1 rfl) ?_
  refine lv_iconst (v := 1) hx hb dL_law_381 (by decide) ?_
  refine lv_iadd hx hb dL_law_382 ?_
  refine tp_i (nI (i + 1)) (nI_add i 1) ?_
  refine sc_i (n := i + 1) hx hb hL hX hbl hbB (by omega) (by omega) dL_law_383 ?_
  refine lv_aload_n hx hb dL_law_384 rfl (lv_at hl 2 rfl) ?_
  refine lv_iload hx hb dL_law_385 (lv_at hl 1 rfl) ?_
  refine lv_iconst (v := 2) hx hb dL_law_387 (by decide) ?_
  refine lv_iadd hx hb dL_law_388 ?_
  refine tp_i (nI (i + 2)) (nI_add i 2) ?_
  refine sc_i (n := i + 2) hx hb hL hX hbl hbB (by omega) (by omega) dL_law_389 ?_
  refine W.know (fun hg1 => ?_)
  have hp1 := hW1.2.2.2.2.2.2.pot
  refine cv_i (As := [.int (xs (i + 1)), .int (xs (i + 2))]) (rest := []) (b := ma) ⟨hx, hb, hml, hown, hts⟩ (c_X9_message hW1.1 (w := ma) hW1.2.2.1 (x := (xs (i + 1))) (y := (xs (i + 2)))) (cwV 2 hts gL_law_X9_message rfl rfl rfl hdX9_message_v ⟨Nat.le_of_ble_eq_true rfl, Nat.le_of_ble_eq_true rfl⟩) hN hE hL (rcv10 hN hW1.1 hW1.2.2.1.1) rfl rfl hl.1 (Nat.le_of_ble_eq_true rfl) dL_law_390 (show _ ≤ 601024 by omega) (show _ ≤ 7293034 by omega) (fun r1 H2 locs hL hq => ?_)
  refine W.eq (g2 := F0 m 393 ls [.int r1]) rfl ?_
  have hW2 := hW1.md hq.1 hq.2 (by decide)
  refine lv_istore (lv' := [(6, .int r1), (5, .int r0), (4, .int (nI i)), (0, .ref b), (1, .ref xa), (2, .ref ma), (3, .ref oa)]) hx hb dL_law_393 hl (by decide) rfl (fun ls hl => ?_)
  refine lv_goto (tgt := 757) hx hb dL_law_395 (by decide) ?_
  exact kend _ _ _ _ _ _ _ (k + kk) (n + nn) hL hW2 (by omega) (by omega) (by omega) (by omega) (lv_sub hl [2, 3, 4, 5, 6] rfl)

theorem hdL_proposal_o : yL_proposal.cls ≠ "java/lang/invoke/MethodHandle" ∧ yL_proposal.cls ≠ "java/lang/invoke/VarHandle" ∧ (parseMethodDescriptor yL_proposal.desc).map (fun d => d.parameters.length) = some 3 := by decide +kernel
theorem hdX9_proposal_v : yX9_proposal.cls = RX9 ∧ yX9_proposal.cls ≠ "java/lang/invoke/MethodHandle" ∧ yX9_proposal.cls ≠ "java/lang/invoke/VarHandle" ∧ (parseMethodDescriptor yX9_proposal.desc).map (fun d => d.parameters.length) = some 1 := by decide +kernel
set_option maxHeartbeats 4000000 in
set_option maxRecDepth 100000 in
theorem law_7 {p : Program} {l : Launch} {e : Env} {s : State} {m : MethodId} {args : Array Value} {below : List Frame} {meth : Method} {c : Code} {Q : State → Prop} {D : va_G} {cs : Nat → ClassId} {B0 b L : Nat} {xs : Nat → Int32} (hlt : l.stackTraces = false) (hx : p.tables.exec = Jvm.exec) (hb : c.code = cL_law) (hml : c.maxLocals = 9) (hown : s.vm.findClass RL = some m.cls) (hts : ∀ w ∈ wsL_law, w.before args s = true) (hN : NK D cs s) (hE : EX cs B0 s s.heap) (hX : va_X b L xs s s.heap) (hbl : b < s.heap.size) (hbB : b < B0) (hL30 : L < 2 ^ 30) {xa ma oa : Nat} {i j : Nat} (hi : i + 6 ≤ L) (hj : j ≤ 511)
    (kend : ∀ (κ1 : KM) (T1 : Nat) (C1 : Nat → Nat) (LN1 : Nat → Nat → Nat) (H1 : Heap) (locs1 : List Loc) (ls1 : Array Slot) (k1 n1 : Nat), OkL B0 locs1 → LST D cs B0 κ1 H1 xa ma oa T1 C1 LN1 → T1 ≤ 25000 * (j + 1) → sumN C1 16 ≤ 24 * (j + 1) → 35 * k1 ≤ n1 + 35 * (j + 1) + 35000 → n1 ≤ PotN LN1 + 714 * (j + 1) + 600000 → lv_has ls1 9 [(4, .int (nI i)), (0, .ref b), (1, .ref xa), (2, .ref ma), (3, .ref oa)] → W p l e room_1 s m args below meth c H1 locs1 k1 n1 Q (F0 m 757 ls1 []))
    {κ : KM} {T : Nat} {C : Nat → Nat} {LN : Nat → Nat → Nat} (H : Heap) (locs : List Loc) (ls : Array Slot) (k n : Nat) (hL : OkL B0 locs) (hW : LST D cs B0 κ H xa ma oa T C LN) (hT : T ≤ 25000 * j) (hC : sumN C 16 ≤ 24 * j) (hA1 : 35 * k ≤ n + 35 * j + 35000) (hA2 : n ≤ PotN LN + 714 * j + 600000) (hl : lv_has ls 9 [(4, .int (nI i)), (0, .ref b), (1, .ref xa), (2, .ref ma), (3, .ref oa)]) : W p l e room_1 s m args below meth c H locs k n Q (F0 m 398 ls []) := by
  refine lv_aload_n hx hb dL_law_398 rfl (lv_at hl 2 rfl) ?_
  refine lv_aload_n hx hb dL_law_399 rfl (lv_at hl 1 rfl) ?_
  refine lv_iload hx hb dL_law_400 (lv_at hl 0 rfl) ?_
  refine lv_iconst (v := 1) hx hb dL_law_402 (by decide) ?_
  refine lv_iadd hx hb dL_law_403 ?_
  refine tp_i (nI (i + 1)) (nI_add i 1) ?_
  refine sc_i (n := i + 1) hx hb hL hX hbl hbB (by omega) (by omega) dL_law_404 ?_
  refine lv_aload_n hx hb dL_law_405 rfl (lv_at hl 4 rfl) ?_
  refine W.know (fun hg0 => ?_)
  have hp0 := hW.2.2.2.2.2.2.pot
  refine csw_i (As := [.ref xa, .int (xs (i + 1)), .ref oa]) (rest := []) ⟨hx, hb, hml, hown, hts⟩ (c_L_proposal hlt hW.1 (w := xa) hW.2.1 (o := oa) hW.2.2.2.1 hW.2.2.2.2.2.2 (by omega) (x := (xs (i + 1)))) (vx_cwSW 3 hts gL_law_L_proposal rfl rfl rfl hdL_proposal_o ⟨Nat.le_of_ble_eq_true rfl, Nat.le_of_ble_eq_true rfl⟩) hN hE hL rfl rfl hl.1 (Nat.le_of_ble_eq_true rfl) dL_law_406 (show _ ≤ 601024 by omega) (show _ ≤ 7293034 by omega) (fun r0 H1 locs hL hq => ?_)
  refine W.eq (g2 := F0 m 409 ls [.int r0]) rfl ?_
  obtain ⟨κ1, hz, hT1, hrd1, hs1, C1, LN1, kk, nn, hC1, hR1, hG, h35, hP1⟩ := hq
  have hW1 := hW.cl hz hT1 hrd1 hs1 hR1
  refine W.tight (k := k + kk) (n := n + nn) (hg0.tr hG) ?_
  refine lv_istore (lv' := [(5, .int r0), (4, .int (nI i)), (0, .ref b), (1, .ref xa), (2, .ref ma), (3, .ref oa)]) hx hb dL_law_409 hl (by decide) rfl (fun ls hl => ?_)
  refine lv_aload_n hx hb dL_law_411 rfl (lv_at hl 4 rfl) ?_
  refine lv_aload_n hx hb dL_law_412 rfl (lv_at hl 2 rfl) ?_
  refine lv_iload hx hb dL_law_413 (lv_at hl 1 rfl) ?_
  refine lv_iconst (v := 1) hx hb dL_law_415 (by decide) ?_
  refine lv_iadd hx hb dL_law_416 ?_
  refine tp_i (nI (i + 1)) (nI_add i 1) ?_
  refine sc_i (n := i + 1) hx hb hL hX hbl hbB (by omega) (by omega) dL_law_417 ?_
  refine W.know (fun hg1 => ?_)
  have hp1 := hW1.2.2.2.2.2.2.pot
  refine cv_i (As := [.int (xs (i + 1))]) (rest := []) (b := ma) ⟨hx, hb, hml, hown, hts⟩ (c_X9_proposal hW1.1 (w := ma) hW1.2.2.1 (x := (xs (i + 1)))) (cwV 1 hts gL_law_X9_proposal rfl rfl rfl hdX9_proposal_v ⟨Nat.le_of_ble_eq_true rfl, Nat.le_of_ble_eq_true rfl⟩) hN hE hL (rcv10 hN hW1.1 hW1.2.2.1.1) rfl rfl hl.1 (Nat.le_of_ble_eq_true rfl) dL_law_418 (show _ ≤ 601024 by omega) (show _ ≤ 7293034 by omega) (fun r1 H2 locs hL hq => ?_)
  refine W.eq (g2 := F0 m 421 ls [.int r1]) rfl ?_
  have hW2 := hW1.md hq.1 hq.2 (by decide)
  refine lv_istore (lv' := [(6, .int r1), (5, .int r0), (4, .int (nI i)), (0, .ref b), (1, .ref xa), (2, .ref ma), (3, .ref oa)]) hx hb dL_law_421 hl (by decide) rfl (fun ls hl => ?_)
  refine lv_goto (tgt := 757) hx hb dL_law_423 (by decide) ?_
  exact kend _ _ _ _ _ _ _ (k + kk) (n + nn) hL hW2 (by omega) (by omega) (by omega) (by omega) (lv_sub hl [2, 3, 4, 5, 6] rfl)

theorem hdX8_spread_v : yX8_spread.cls = RX8 ∧ yX8_spread.cls ≠ "java/lang/invoke/MethodHandle" ∧ yX8_spread.cls ≠ "java/lang/invoke/VarHandle" ∧ (parseMethodDescriptor yX8_spread.desc).map (fun d => d.parameters.length) = some 0 := by decide +kernel
theorem hdX9_spread_v : yX9_spread.cls = RX9 ∧ yX9_spread.cls ≠ "java/lang/invoke/MethodHandle" ∧ yX9_spread.cls ≠ "java/lang/invoke/VarHandle" ∧ (parseMethodDescriptor yX9_spread.desc).map (fun d => d.parameters.length) = some 0 := by decide +kernel
set_option maxHeartbeats 4000000 in
set_option maxRecDepth 100000 in
theorem law_8 {p : Program} {l : Launch} {e : Env} {s : State} {m : MethodId} {args : Array Value} {below : List Frame} {meth : Method} {c : Code} {Q : State → Prop} {D : va_G} {cs : Nat → ClassId} {B0 b L : Nat} {xs : Nat → Int32} (hlt : l.stackTraces = false) (hx : p.tables.exec = Jvm.exec) (hb : c.code = cL_law) (hml : c.maxLocals = 9) (hown : s.vm.findClass RL = some m.cls) (hts : ∀ w ∈ wsL_law, w.before args s = true) (hN : NK D cs s) (hE : EX cs B0 s s.heap) (hX : va_X b L xs s s.heap) (hbl : b < s.heap.size) (hbB : b < B0) (hL30 : L < 2 ^ 30) {xa ma oa : Nat} {i j : Nat} (hi : i + 6 ≤ L) (hj : j ≤ 511)
    (kend : ∀ (κ1 : KM) (T1 : Nat) (C1 : Nat → Nat) (LN1 : Nat → Nat → Nat) (H1 : Heap) (locs1 : List Loc) (ls1 : Array Slot) (k1 n1 : Nat), OkL B0 locs1 → LST D cs B0 κ1 H1 xa ma oa T1 C1 LN1 → T1 ≤ 25000 * (j + 1) → sumN C1 16 ≤ 24 * (j + 1) → 35 * k1 ≤ n1 + 35 * (j + 1) + 35000 → n1 ≤ PotN LN1 + 714 * (j + 1) + 600000 → lv_has ls1 9 [(4, .int (nI i)), (0, .ref b), (1, .ref xa), (2, .ref ma), (3, .ref oa)] → W p l e room_1 s m args below meth c H1 locs1 k1 n1 Q (F0 m 757 ls1 []))
    {κ : KM} {T : Nat} {C : Nat → Nat} {LN : Nat → Nat → Nat} (H : Heap) (locs : List Loc) (ls : Array Slot) (k n : Nat) (hL : OkL B0 locs) (hW : LST D cs B0 κ H xa ma oa T C LN) (hT : T ≤ 25000 * j) (hC : sumN C 16 ≤ 24 * j) (hA1 : 35 * k ≤ n + 35 * j + 35000) (hA2 : n ≤ PotN LN + 714 * j + 600000) (hl : lv_has ls 9 [(4, .int (nI i)), (0, .ref b), (1, .ref xa), (2, .ref ma), (3, .ref oa)]) : W p l e room_1 s m args below meth c H locs k n Q (F0 m 426 ls []) := by
  refine lv_aload_n hx hb dL_law_426 rfl (lv_at hl 2 rfl) ?_
  refine W.know (fun hg0 => ?_)
  have hp0 := hW.2.2.2.2.2.2.pot
  refine cv_i (As := []) (rest := []) (b := xa) ⟨hx, hb, hml, hown, hts⟩ (c_X8_spread hW.1 (w := xa) hW.2.1 hW.2.2.2.2.2.2) (cwV 0 hts gL_law_X8_spread rfl rfl rfl hdX8_spread_v ⟨Nat.le_of_ble_eq_true rfl, Nat.le_of_ble_eq_true rfl⟩) hN hE hL (rcv9 hN hW.1 hW.2.1.1) rfl rfl hl.1 (Nat.le_of_ble_eq_true rfl) dL_law_427 (show _ ≤ 601024 by omega) (show _ ≤ 7293034 by omega) (fun r0 H1 locs hL hq => ?_)
  refine W.eq (g2 := F0 m 430 ls [.int r0]) rfl ?_
  obtain ⟨κ1, hz, hT1, C1, LN1, kk, nn, hC1, hR1, hG, h35, hP1⟩ := hq
  have hW1 := hW.kw hz hT1 hR1
  refine W.tight (k := k + kk) (n := n + nn) (hg0.tr hG) ?_
  refine lv_pop hx hb dL_law_430 rfl ?_
  refine lv_aload_n hx hb dL_law_431 rfl (lv_at hl 3 rfl) ?_
  refine W.know (fun hg1 => ?_)
  have hp1 := hW1.2.2.2.2.2.2.pot
  refine cv_i (As := []) (rest := []) (b := ma) ⟨hx, hb, hml, hown, hts⟩ (c_X9_spread hW1.1 (w := ma) hW1.2.2.1) (cwV 0 hts gL_law_X9_spread rfl rfl rfl hdX9_spread_v ⟨Nat.le_of_ble_eq_true rfl, Nat.le_of_ble_eq_true rfl⟩) hN hE hL (rcv10 hN hW1.1 hW1.2.2.1.1) rfl rfl hl.1 (Nat.le_of_ble_eq_true rfl) dL_law_432 (show _ ≤ 601024 by omega) (show _ ≤ 7293034 by omega) (fun r1 H2 locs hL hq => ?_)
  refine W.eq (g2 := F0 m 435 ls [.int r1]) rfl ?_
  have hW2 := hW1.md hq.1 hq.2 (by decide)
  refine lv_pop hx hb dL_law_435 rfl ?_
  refine lv_goto (tgt := 757) hx hb dL_law_436 (by decide) ?_
  exact kend _ _ _ _ _ _ _ (k + kk) (n + nn) hL hW2 (by omega) (by omega) (by omega) (by omega) (lv_sub hl [0, 1, 2, 3, 4] rfl)

theorem hdL_foretold_o : yL_foretold.cls ≠ "java/lang/invoke/MethodHandle" ∧ yL_foretold.cls ≠ "java/lang/invoke/VarHandle" ∧ (parseMethodDescriptor yL_foretold.desc).map (fun d => d.parameters.length) = some 3 := by decide +kernel
theorem hdX9_foretold_v : yX9_foretold.cls = RX9 ∧ yX9_foretold.cls ≠ "java/lang/invoke/MethodHandle" ∧ yX9_foretold.cls ≠ "java/lang/invoke/VarHandle" ∧ (parseMethodDescriptor yX9_foretold.desc).map (fun d => d.parameters.length) = some 1 := by decide +kernel
set_option maxHeartbeats 4000000 in
set_option maxRecDepth 100000 in
theorem law_9 {p : Program} {l : Launch} {e : Env} {s : State} {m : MethodId} {args : Array Value} {below : List Frame} {meth : Method} {c : Code} {Q : State → Prop} {D : va_G} {cs : Nat → ClassId} {B0 b L : Nat} {xs : Nat → Int32} (hlt : l.stackTraces = false) (hx : p.tables.exec = Jvm.exec) (hb : c.code = cL_law) (hml : c.maxLocals = 9) (hown : s.vm.findClass RL = some m.cls) (hts : ∀ w ∈ wsL_law, w.before args s = true) (hN : NK D cs s) (hE : EX cs B0 s s.heap) (hX : va_X b L xs s s.heap) (hbl : b < s.heap.size) (hbB : b < B0) (hL30 : L < 2 ^ 30) {xa ma oa : Nat} {i j : Nat} (hi : i + 6 ≤ L) (hj : j ≤ 511)
    (kend : ∀ (κ1 : KM) (T1 : Nat) (C1 : Nat → Nat) (LN1 : Nat → Nat → Nat) (H1 : Heap) (locs1 : List Loc) (ls1 : Array Slot) (k1 n1 : Nat), OkL B0 locs1 → LST D cs B0 κ1 H1 xa ma oa T1 C1 LN1 → T1 ≤ 25000 * (j + 1) → sumN C1 16 ≤ 24 * (j + 1) → 35 * k1 ≤ n1 + 35 * (j + 1) + 35000 → n1 ≤ PotN LN1 + 714 * (j + 1) + 600000 → lv_has ls1 9 [(4, .int (nI i)), (0, .ref b), (1, .ref xa), (2, .ref ma), (3, .ref oa)] → W p l e room_1 s m args below meth c H1 locs1 k1 n1 Q (F0 m 757 ls1 []))
    {κ : KM} {T : Nat} {C : Nat → Nat} {LN : Nat → Nat → Nat} (H : Heap) (locs : List Loc) (ls : Array Slot) (k n : Nat) (hL : OkL B0 locs) (hW : LST D cs B0 κ H xa ma oa T C LN) (hT : T ≤ 25000 * j) (hC : sumN C 16 ≤ 24 * j) (hA1 : 35 * k ≤ n + 35 * j + 35000) (hA2 : n ≤ PotN LN + 714 * j + 600000) (hl : lv_has ls 9 [(4, .int (nI i)), (0, .ref b), (1, .ref xa), (2, .ref ma), (3, .ref oa)]) : W p l e room_1 s m args below meth c H locs k n Q (F0 m 439 ls []) := by
  refine lv_aload_n hx hb dL_law_439 rfl (lv_at hl 2 rfl) ?_
  refine lv_aload_n hx hb dL_law_440 rfl (lv_at hl 1 rfl) ?_
  refine lv_iload hx hb dL_law_441 (lv_at hl 0 rfl) ?_
  refine lv_iconst (v := 1) hx hb dL_law_443 (by decide) ?_
  refine lv_iadd hx hb dL_law_444 ?_
  refine tp_i (nI (i + 1)) (nI_add i 1) ?_
  refine sc_i (n := i + 1) hx hb hL hX hbl hbB (by omega) (by omega) dL_law_445 ?_
  refine lv_aload_n hx hb dL_law_446 rfl (lv_at hl 4 rfl) ?_
  refine W.know (fun hg0 => ?_)
  have hp0 := hW.2.2.2.2.2.2.pot
  refine csw_i (As := [.ref xa, .int (xs (i + 1)), .ref oa]) (rest := []) ⟨hx, hb, hml, hown, hts⟩ (c_L_foretold hlt hW.1 (w := xa) hW.2.1 (o := oa) hW.2.2.2.1 hW.2.2.2.2.2.2 (by omega) (x := (xs (i + 1)))) (vx_cwSW 3 hts gL_law_L_foretold rfl rfl rfl hdL_foretold_o ⟨Nat.le_of_ble_eq_true rfl, Nat.le_of_ble_eq_true rfl⟩) hN hE hL rfl rfl hl.1 (Nat.le_of_ble_eq_true rfl) dL_law_447 (show _ ≤ 601024 by omega) (show _ ≤ 7293034 by omega) (fun r0 H1 locs hL hq => ?_)
  refine W.eq (g2 := F0 m 450 ls [.int r0]) rfl ?_
  obtain ⟨κ1, hz, hT1, hrd1, hs1, C1, LN1, kk, nn, hC1, hR1, hG, h35, hP1⟩ := hq
  have hW1 := hW.cl hz hT1 hrd1 hs1 hR1
  refine W.tight (k := k + kk) (n := n + nn) (hg0.tr hG) ?_
  refine lv_istore (lv' := [(5, .int r0), (4, .int (nI i)), (0, .ref b), (1, .ref xa), (2, .ref ma), (3, .ref oa)]) hx hb dL_law_450 hl (by decide) rfl (fun ls hl => ?_)
  refine lv_aload_n hx hb dL_law_452 rfl (lv_at hl 4 rfl) ?_
  refine lv_aload_n hx hb dL_law_453 rfl (lv_at hl 2 rfl) ?_
  refine lv_iload hx hb dL_law_454 (lv_at hl 1 rfl) ?_
  refine lv_iconst (v := 1) hx hb dL_law_456 (by decide) ?_
  refine lv_iadd hx hb dL_law_457 ?_
  refine tp_i (nI (i + 1)) (nI_add i 1) ?_
  refine sc_i (n := i + 1) hx hb hL hX hbl hbB (by omega) (by omega) dL_law_458 ?_
  refine W.know (fun hg1 => ?_)
  have hp1 := hW1.2.2.2.2.2.2.pot
  refine cv_i (As := [.int (xs (i + 1))]) (rest := []) (b := ma) ⟨hx, hb, hml, hown, hts⟩ (c_X9_foretold hW1.1 (w := ma) hW1.2.2.1 (x := (xs (i + 1)))) (cwV 1 hts gL_law_X9_foretold rfl rfl rfl hdX9_foretold_v ⟨Nat.le_of_ble_eq_true rfl, Nat.le_of_ble_eq_true rfl⟩) hN hE hL (rcv10 hN hW1.1 hW1.2.2.1.1) rfl rfl hl.1 (Nat.le_of_ble_eq_true rfl) dL_law_459 (show _ ≤ 601024 by omega) (show _ ≤ 7293034 by omega) (fun r1 H2 locs hL hq => ?_)
  refine W.eq (g2 := F0 m 462 ls [.int r1]) rfl ?_
  have hW2 := hW1.md hq.1 hq.2 (by decide)
  refine lv_istore (lv' := [(6, .int r1), (5, .int r0), (4, .int (nI i)), (0, .ref b), (1, .ref xa), (2, .ref ma), (3, .ref oa)]) hx hb dL_law_462 hl (by decide) rfl (fun ls hl => ?_)
  refine lv_goto (tgt := 757) hx hb dL_law_464 (by decide) ?_
  exact kend _ _ _ _ _ _ _ (k + kk) (n + nn) hL hW2 (by omega) (by omega) (by omega) (by omega) (lv_sub hl [2, 3, 4, 5, 6] rfl)

theorem hdX8_safest_v : yX8_safest.cls = RX8 ∧ yX8_safest.cls ≠ "java/lang/invoke/MethodHandle" ∧ yX8_safest.cls ≠ "java/lang/invoke/VarHandle" ∧ (parseMethodDescriptor yX8_safest.desc).map (fun d => d.parameters.length) = some 0 := by decide +kernel
theorem hdX9_safest_v : yX9_safest.cls = RX9 ∧ yX9_safest.cls ≠ "java/lang/invoke/MethodHandle" ∧ yX9_safest.cls ≠ "java/lang/invoke/VarHandle" ∧ (parseMethodDescriptor yX9_safest.desc).map (fun d => d.parameters.length) = some 0 := by decide +kernel
set_option maxHeartbeats 4000000 in
set_option maxRecDepth 100000 in
theorem law_10 {p : Program} {l : Launch} {e : Env} {s : State} {m : MethodId} {args : Array Value} {below : List Frame} {meth : Method} {c : Code} {Q : State → Prop} {D : va_G} {cs : Nat → ClassId} {B0 b L : Nat} {xs : Nat → Int32} (hlt : l.stackTraces = false) (hx : p.tables.exec = Jvm.exec) (hb : c.code = cL_law) (hml : c.maxLocals = 9) (hown : s.vm.findClass RL = some m.cls) (hts : ∀ w ∈ wsL_law, w.before args s = true) (hN : NK D cs s) (hE : EX cs B0 s s.heap) (hX : va_X b L xs s s.heap) (hbl : b < s.heap.size) (hbB : b < B0) (hL30 : L < 2 ^ 30) {xa ma oa : Nat} {i j : Nat} (hi : i + 6 ≤ L) (hj : j ≤ 511)
    (kend : ∀ (κ1 : KM) (T1 : Nat) (C1 : Nat → Nat) (LN1 : Nat → Nat → Nat) (H1 : Heap) (locs1 : List Loc) (ls1 : Array Slot) (k1 n1 : Nat), OkL B0 locs1 → LST D cs B0 κ1 H1 xa ma oa T1 C1 LN1 → T1 ≤ 25000 * (j + 1) → sumN C1 16 ≤ 24 * (j + 1) → 35 * k1 ≤ n1 + 35 * (j + 1) + 35000 → n1 ≤ PotN LN1 + 714 * (j + 1) + 600000 → lv_has ls1 9 [(4, .int (nI i)), (0, .ref b), (1, .ref xa), (2, .ref ma), (3, .ref oa)] → W p l e room_1 s m args below meth c H1 locs1 k1 n1 Q (F0 m 757 ls1 []))
    {κ : KM} {T : Nat} {C : Nat → Nat} {LN : Nat → Nat → Nat} (H : Heap) (locs : List Loc) (ls : Array Slot) (k n : Nat) (hL : OkL B0 locs) (hW : LST D cs B0 κ H xa ma oa T C LN) (hT : T ≤ 25000 * j) (hC : sumN C 16 ≤ 24 * j) (hA1 : 35 * k ≤ n + 35 * j + 35000) (hA2 : n ≤ PotN LN + 714 * j + 600000) (hl : lv_has ls 9 [(4, .int (nI i)), (0, .ref b), (1, .ref xa), (2, .ref ma), (3, .ref oa)]) : W p l e room_1 s m args below meth c H locs k n Q (F0 m 467 ls []) := by
  refine lv_aload_n hx hb dL_law_467 rfl (lv_at hl 2 rfl) ?_
  refine W.know (fun hg0 => ?_)
  have hp0 := hW.2.2.2.2.2.2.pot
  refine cv_i (As := []) (rest := []) (b := xa) ⟨hx, hb, hml, hown, hts⟩ (c_X8_safest hW.1 (w := xa) hW.2.1 hW.2.2.2.2.2.2) (cwV 0 hts gL_law_X8_safest rfl rfl rfl hdX8_safest_v ⟨Nat.le_of_ble_eq_true rfl, Nat.le_of_ble_eq_true rfl⟩) hN hE hL (rcv9 hN hW.1 hW.2.1.1) rfl rfl hl.1 (Nat.le_of_ble_eq_true rfl) dL_law_468 (show _ ≤ 601024 by omega) (show _ ≤ 7293034 by omega) (fun r0 H1 locs hL hq => ?_)
  refine W.eq (g2 := F0 m 471 ls [.int r0]) rfl ?_
  obtain ⟨κ1, hz, hT1, C1, LN1, kk, nn, hC1, hR1, hG, h35, hP1⟩ := hq
  have hW1 := hW.kw hz hT1 hR1
  refine W.tight (k := k + kk) (n := n + nn) (hg0.tr hG) ?_
  refine lv_pop hx hb dL_law_471 rfl ?_
  refine lv_aload_n hx hb dL_law_472 rfl (lv_at hl 3 rfl) ?_
  refine W.know (fun hg1 => ?_)
  have hp1 := hW1.2.2.2.2.2.2.pot
  refine cv_i (As := []) (rest := []) (b := ma) ⟨hx, hb, hml, hown, hts⟩ (c_X9_safest hW1.1 (w := ma) hW1.2.2.1) (cwV 0 hts gL_law_X9_safest rfl rfl rfl hdX9_safest_v ⟨Nat.le_of_ble_eq_true rfl, Nat.le_of_ble_eq_true rfl⟩) hN hE hL (rcv10 hN hW1.1 hW1.2.2.1.1) rfl rfl hl.1 (Nat.le_of_ble_eq_true rfl) dL_law_473 (show _ ≤ 601024 by omega) (show _ ≤ 7293034 by omega) (fun r1 H2 locs hL hq => ?_)
  refine W.eq (g2 := F0 m 476 ls [.int r1]) rfl ?_
  have hW2 := hW1.md hq.1 hq.2 (by decide)
  refine lv_pop hx hb dL_law_476 rfl ?_
  refine lv_goto (tgt := 757) hx hb dL_law_477 (by decide) ?_
  exact kend _ _ _ _ _ _ _ (k + kk) (n + nn) hL hW2 (by omega) (by omega) (by omega) (by omega) (lv_sub hl [0, 1, 2, 3, 4] rfl)

theorem hdX8_meanError_v : yX8_meanError.cls = RX8 ∧ yX8_meanError.cls ≠ "java/lang/invoke/MethodHandle" ∧ yX8_meanError.cls ≠ "java/lang/invoke/VarHandle" ∧ (parseMethodDescriptor yX8_meanError.desc).map (fun d => d.parameters.length) = some 0 := by decide +kernel
theorem hdX9_meanError_v : yX9_meanError.cls = RX9 ∧ yX9_meanError.cls ≠ "java/lang/invoke/MethodHandle" ∧ yX9_meanError.cls ≠ "java/lang/invoke/VarHandle" ∧ (parseMethodDescriptor yX9_meanError.desc).map (fun d => d.parameters.length) = some 0 := by decide +kernel
set_option maxHeartbeats 4000000 in
set_option maxRecDepth 100000 in
theorem law_11 {p : Program} {l : Launch} {e : Env} {s : State} {m : MethodId} {args : Array Value} {below : List Frame} {meth : Method} {c : Code} {Q : State → Prop} {D : va_G} {cs : Nat → ClassId} {B0 b L : Nat} {xs : Nat → Int32} (hlt : l.stackTraces = false) (hx : p.tables.exec = Jvm.exec) (hb : c.code = cL_law) (hml : c.maxLocals = 9) (hown : s.vm.findClass RL = some m.cls) (hts : ∀ w ∈ wsL_law, w.before args s = true) (hN : NK D cs s) (hE : EX cs B0 s s.heap) (hX : va_X b L xs s s.heap) (hbl : b < s.heap.size) (hbB : b < B0) (hL30 : L < 2 ^ 30) {xa ma oa : Nat} {i j : Nat} (hi : i + 6 ≤ L) (hj : j ≤ 511)
    (kend : ∀ (κ1 : KM) (T1 : Nat) (C1 : Nat → Nat) (LN1 : Nat → Nat → Nat) (H1 : Heap) (locs1 : List Loc) (ls1 : Array Slot) (k1 n1 : Nat), OkL B0 locs1 → LST D cs B0 κ1 H1 xa ma oa T1 C1 LN1 → T1 ≤ 25000 * (j + 1) → sumN C1 16 ≤ 24 * (j + 1) → 35 * k1 ≤ n1 + 35 * (j + 1) + 35000 → n1 ≤ PotN LN1 + 714 * (j + 1) + 600000 → lv_has ls1 9 [(4, .int (nI i)), (0, .ref b), (1, .ref xa), (2, .ref ma), (3, .ref oa)] → W p l e room_1 s m args below meth c H1 locs1 k1 n1 Q (F0 m 757 ls1 []))
    {κ : KM} {T : Nat} {C : Nat → Nat} {LN : Nat → Nat → Nat} (H : Heap) (locs : List Loc) (ls : Array Slot) (k n : Nat) (hL : OkL B0 locs) (hW : LST D cs B0 κ H xa ma oa T C LN) (hT : T ≤ 25000 * j) (hC : sumN C 16 ≤ 24 * j) (hA1 : 35 * k ≤ n + 35 * j + 35000) (hA2 : n ≤ PotN LN + 714 * j + 600000) (hl : lv_has ls 9 [(4, .int (nI i)), (0, .ref b), (1, .ref xa), (2, .ref ma), (3, .ref oa)]) : W p l e room_1 s m args below meth c H locs k n Q (F0 m 480 ls []) := by
  refine lv_aload_n hx hb dL_law_480 rfl (lv_at hl 2 rfl) ?_
  refine W.know (fun hg0 => ?_)
  have hp0 := hW.2.2.2.2.2.2.pot
  refine cv_d (As := []) (rest := []) (b := xa) ⟨hx, hb, hml, hown, hts⟩ (c_X8_meanError hW.1 (w := xa) hW.2.1 hW.2.2.2.2.2.2) (cwV 0 hts gL_law_X8_meanError rfl rfl rfl hdX8_meanError_v ⟨Nat.le_of_ble_eq_true rfl, Nat.le_of_ble_eq_true rfl⟩) hN hE hL (rcv9 hN hW.1 hW.2.1.1) rfl rfl hl.1 (Nat.le_of_ble_eq_true rfl) dL_law_481 (show _ ≤ 601024 by omega) (show _ ≤ 7293034 by omega) (fun r0 H1 locs hL hq => ?_)
  refine W.eq (g2 := F0 m 484 ls [.double r0]) rfl ?_
  obtain ⟨κ1, hz, hT1, C1, LN1, kk, nn, hC1, hR1, hG, h35, hP1⟩ := hq
  have hW1 := hW.kw hz hT1 hR1
  refine W.tight (k := k + kk) (n := n + nn) (hg0.tr hG) ?_
  refine lv_dstore (lv' := [(5, .double r0), (4, .int (nI i)), (0, .ref b), (1, .ref xa), (2, .ref ma), (3, .ref oa)]) hx hb dL_law_484 hl (by decide) rfl (fun ls hl => ?_)
  refine lv_aload_n hx hb dL_law_486 rfl (lv_at hl 4 rfl) ?_
  refine W.know (fun hg1 => ?_)
  have hp1 := hW1.2.2.2.2.2.2.pot
  refine cv_d (As := []) (rest := []) (b := ma) ⟨hx, hb, hml, hown, hts⟩ (c_X9_meanError hW1.1 (w := ma) hW1.2.2.1) (cwV 0 hts gL_law_X9_meanError rfl rfl rfl hdX9_meanError_v ⟨Nat.le_of_ble_eq_true rfl, Nat.le_of_ble_eq_true rfl⟩) hN hE hL (rcv10 hN hW1.1 hW1.2.2.1.1) rfl rfl hl.1 (Nat.le_of_ble_eq_true rfl) dL_law_487 (show _ ≤ 601024 by omega) (show _ ≤ 7293034 by omega) (fun r1 H2 locs hL hq => ?_)
  refine W.eq (g2 := F0 m 490 ls [.double r1]) rfl ?_
  have hW2 := hW1.md hq.1 hq.2 (by decide)
  refine lv_dstore (lv' := [(7, .double r1), (5, .double r0), (4, .int (nI i)), (0, .ref b), (1, .ref xa), (2, .ref ma), (3, .ref oa)]) hx hb dL_law_490 hl (by decide) rfl (fun ls hl => ?_)
  refine lv_goto (tgt := 757) hx hb dL_law_492 (by decide) ?_
  exact kend _ _ _ _ _ _ _ (k + kk) (n + nn) hL hW2 (by omega) (by omega) (by omega) (by omega) (lv_sub hl [2, 3, 4, 5, 6] rfl)

theorem hdL_propose_o : yL_propose.cls ≠ "java/lang/invoke/MethodHandle" ∧ yL_propose.cls ≠ "java/lang/invoke/VarHandle" ∧ (parseMethodDescriptor yL_propose.desc).map (fun d => d.parameters.length) = some 3 := by decide +kernel
theorem hdX9_propose_v : yX9_propose.cls = RX9 ∧ yX9_propose.cls ≠ "java/lang/invoke/MethodHandle" ∧ yX9_propose.cls ≠ "java/lang/invoke/VarHandle" ∧ (parseMethodDescriptor yX9_propose.desc).map (fun d => d.parameters.length) = some 1 := by decide +kernel
set_option maxHeartbeats 4000000 in
set_option maxRecDepth 100000 in
theorem law_12 {p : Program} {l : Launch} {e : Env} {s : State} {m : MethodId} {args : Array Value} {below : List Frame} {meth : Method} {c : Code} {Q : State → Prop} {D : va_G} {cs : Nat → ClassId} {B0 b L : Nat} {xs : Nat → Int32} (hlt : l.stackTraces = false) (hx : p.tables.exec = Jvm.exec) (hb : c.code = cL_law) (hml : c.maxLocals = 9) (hown : s.vm.findClass RL = some m.cls) (hts : ∀ w ∈ wsL_law, w.before args s = true) (hN : NK D cs s) (hE : EX cs B0 s s.heap) (hX : va_X b L xs s s.heap) (hbl : b < s.heap.size) (hbB : b < B0) (hL30 : L < 2 ^ 30) {xa ma oa : Nat} {i j : Nat} (hi : i + 6 ≤ L) (hj : j ≤ 511)
    (kend : ∀ (κ1 : KM) (T1 : Nat) (C1 : Nat → Nat) (LN1 : Nat → Nat → Nat) (H1 : Heap) (locs1 : List Loc) (ls1 : Array Slot) (k1 n1 : Nat), OkL B0 locs1 → LST D cs B0 κ1 H1 xa ma oa T1 C1 LN1 → T1 ≤ 25000 * (j + 1) → sumN C1 16 ≤ 24 * (j + 1) → 35 * k1 ≤ n1 + 35 * (j + 1) + 35000 → n1 ≤ PotN LN1 + 714 * (j + 1) + 600000 → lv_has ls1 9 [(4, .int (nI i)), (0, .ref b), (1, .ref xa), (2, .ref ma), (3, .ref oa)] → W p l e room_1 s m args below meth c H1 locs1 k1 n1 Q (F0 m 757 ls1 []))
    {κ : KM} {T : Nat} {C : Nat → Nat} {LN : Nat → Nat → Nat} (H : Heap) (locs : List Loc) (ls : Array Slot) (k n : Nat) (hL : OkL B0 locs) (hW : LST D cs B0 κ H xa ma oa T C LN) (hT : T ≤ 25000 * j) (hC : sumN C 16 ≤ 24 * j) (hA1 : 35 * k ≤ n + 35 * j + 35000) (hA2 : n ≤ PotN LN + 714 * j + 600000) (hl : lv_has ls 9 [(4, .int (nI i)), (0, .ref b), (1, .ref xa), (2, .ref ma), (3, .ref oa)]) : W p l e room_1 s m args below meth c H locs k n Q (F0 m 495 ls []) := by
  refine lv_aload_n hx hb dL_law_495 rfl (lv_at hl 2 rfl) ?_
  refine lv_aload_n hx hb dL_law_496 rfl (lv_at hl 1 rfl) ?_
  refine lv_iload hx hb dL_law_497 (lv_at hl 0 rfl) ?_
  refine lv_iconst (v := 1) hx hb dL_law_499 (by decide) ?_
  refine lv_iadd hx hb dL_law_500 ?_
  refine tp_i (nI (i + 1)) (nI_add i 1) ?_
  refine sc_i (n := i + 1) hx hb hL hX hbl hbB (by omega) (by omega) dL_law_501 ?_
  refine lv_aload_n hx hb dL_law_502 rfl (lv_at hl 4 rfl) ?_
  refine W.know (fun hg0 => ?_)
  have hp0 := hW.2.2.2.2.2.2.pot
  refine csw_i (As := [.ref xa, .int (xs (i + 1)), .ref oa]) (rest := []) ⟨hx, hb, hml, hown, hts⟩ (c_L_propose hlt hW.1 (w := xa) hW.2.1 (o := oa) hW.2.2.2.1 hW.2.2.2.2.2.2 (by omega) (x := (xs (i + 1)))) (vx_cwSW 3 hts gL_law_L_propose rfl rfl rfl hdL_propose_o ⟨Nat.le_of_ble_eq_true rfl, Nat.le_of_ble_eq_true rfl⟩) hN hE hL rfl rfl hl.1 (Nat.le_of_ble_eq_true rfl) dL_law_503 (show _ ≤ 601024 by omega) (show _ ≤ 7293034 by omega) (fun r0 H1 locs hL hq => ?_)
  refine W.eq (g2 := F0 m 506 ls [.int r0]) rfl ?_
  obtain ⟨κ1, hz, hT1, hrd1, hs1, C1, LN1, kk, nn, hC1, hR1, hG, h35, hP1⟩ := hq
  have hW1 := hW.cl hz hT1 hrd1 hs1 hR1
  refine W.tight (k := k + kk) (n := n + nn) (hg0.tr hG) ?_
  refine lv_istore (lv' := [(5, .int r0), (4, .int (nI i)), (0, .ref b), (1, .ref xa), (2, .ref ma), (3, .ref oa)]) hx hb dL_law_506 hl (by decide) rfl (fun ls hl => ?_)
  refine lv_aload_n hx hb dL_law_508 rfl (lv_at hl 4 rfl) ?_
  refine lv_aload_n hx hb dL_law_509 rfl (lv_at hl 2 rfl) ?_
  refine lv_iload hx hb dL_law_510 (lv_at hl 1 rfl) ?_
  refine lv_iconst (v := 1) hx hb dL_law_512 (by decide) ?_
  refine lv_iadd hx hb dL_law_513 ?_
  refine tp_i (nI (i + 1)) (nI_add i 1) ?_
  refine sc_i (n := i + 1) hx hb hL hX hbl hbB (by omega) (by omega) dL_law_514 ?_
  refine W.know (fun hg1 => ?_)
  have hp1 := hW1.2.2.2.2.2.2.pot
  refine cv_i (As := [.int (xs (i + 1))]) (rest := []) (b := ma) ⟨hx, hb, hml, hown, hts⟩ (c_X9_propose hW1.1 (w := ma) hW1.2.2.1 (x := (xs (i + 1)))) (cwV 1 hts gL_law_X9_propose rfl rfl rfl hdX9_propose_v ⟨Nat.le_of_ble_eq_true rfl, Nat.le_of_ble_eq_true rfl⟩) hN hE hL (rcv10 hN hW1.1 hW1.2.2.1.1) rfl rfl hl.1 (Nat.le_of_ble_eq_true rfl) dL_law_515 (show _ ≤ 601024 by omega) (show _ ≤ 7293034 by omega) (fun r1 H2 locs hL hq => ?_)
  refine W.eq (g2 := F0 m 518 ls [.int r1]) rfl ?_
  have hW2 := hW1.md hq.1 hq.2 (by decide)
  refine lv_istore (lv' := [(6, .int r1), (5, .int r0), (4, .int (nI i)), (0, .ref b), (1, .ref xa), (2, .ref ma), (3, .ref oa)]) hx hb dL_law_518 hl (by decide) rfl (fun ls hl => ?_)
  refine lv_goto (tgt := 757) hx hb dL_law_520 (by decide) ?_
  exact kend _ _ _ _ _ _ _ (k + kk) (n + nn) hL hW2 (by omega) (by omega) (by omega) (by omega) (lv_sub hl [2, 3, 4, 5, 6] rfl)

theorem hdL_ask_o : yL_ask.cls ≠ "java/lang/invoke/MethodHandle" ∧ yL_ask.cls ≠ "java/lang/invoke/VarHandle" ∧ (parseMethodDescriptor yL_ask.desc).map (fun d => d.parameters.length) = some 3 := by decide +kernel
theorem hdX9_ask_v : yX9_ask.cls = RX9 ∧ yX9_ask.cls ≠ "java/lang/invoke/MethodHandle" ∧ yX9_ask.cls ≠ "java/lang/invoke/VarHandle" ∧ (parseMethodDescriptor yX9_ask.desc).map (fun d => d.parameters.length) = some 1 := by decide +kernel
set_option maxHeartbeats 4000000 in
set_option maxRecDepth 100000 in
theorem law_13 {p : Program} {l : Launch} {e : Env} {s : State} {m : MethodId} {args : Array Value} {below : List Frame} {meth : Method} {c : Code} {Q : State → Prop} {D : va_G} {cs : Nat → ClassId} {B0 b L : Nat} {xs : Nat → Int32} (hlt : l.stackTraces = false) (hx : p.tables.exec = Jvm.exec) (hb : c.code = cL_law) (hml : c.maxLocals = 9) (hown : s.vm.findClass RL = some m.cls) (hts : ∀ w ∈ wsL_law, w.before args s = true) (hN : NK D cs s) (hE : EX cs B0 s s.heap) (hX : va_X b L xs s s.heap) (hbl : b < s.heap.size) (hbB : b < B0) (hL30 : L < 2 ^ 30) {xa ma oa : Nat} {i j : Nat} (hi : i + 6 ≤ L) (hj : j ≤ 511)
    (kend : ∀ (κ1 : KM) (T1 : Nat) (C1 : Nat → Nat) (LN1 : Nat → Nat → Nat) (H1 : Heap) (locs1 : List Loc) (ls1 : Array Slot) (k1 n1 : Nat), OkL B0 locs1 → LST D cs B0 κ1 H1 xa ma oa T1 C1 LN1 → T1 ≤ 25000 * (j + 1) → sumN C1 16 ≤ 24 * (j + 1) → 35 * k1 ≤ n1 + 35 * (j + 1) + 35000 → n1 ≤ PotN LN1 + 714 * (j + 1) + 600000 → lv_has ls1 9 [(4, .int (nI i)), (0, .ref b), (1, .ref xa), (2, .ref ma), (3, .ref oa)] → W p l e room_1 s m args below meth c H1 locs1 k1 n1 Q (F0 m 757 ls1 []))
    {κ : KM} {T : Nat} {C : Nat → Nat} {LN : Nat → Nat → Nat} (H : Heap) (locs : List Loc) (ls : Array Slot) (k n : Nat) (hL : OkL B0 locs) (hW : LST D cs B0 κ H xa ma oa T C LN) (hT : T ≤ 25000 * j) (hC : sumN C 16 ≤ 24 * j) (hA1 : 35 * k ≤ n + 35 * j + 35000) (hA2 : n ≤ PotN LN + 714 * j + 600000) (hl : lv_has ls 9 [(4, .int (nI i)), (0, .ref b), (1, .ref xa), (2, .ref ma), (3, .ref oa)]) : W p l e room_1 s m args below meth c H locs k n Q (F0 m 523 ls []) := by
  refine lv_aload_n hx hb dL_law_523 rfl (lv_at hl 2 rfl) ?_
  refine lv_aload_n hx hb dL_law_524 rfl (lv_at hl 1 rfl) ?_
  refine lv_iload hx hb dL_law_525 (lv_at hl 0 rfl) ?_
  refine lv_iconst (v := 1) hx hb dL_law_527 (by decide) ?_
  refine lv_iadd hx hb dL_law_528 ?_
  refine tp_i (nI (i + 1)) (nI_add i 1) ?_
  refine sc_i (n := i + 1) hx hb hL hX hbl hbB (by omega) (by omega) dL_law_529 ?_
  refine lv_aload_n hx hb dL_law_530 rfl (lv_at hl 4 rfl) ?_
  refine W.know (fun hg0 => ?_)
  have hp0 := hW.2.2.2.2.2.2.pot
  refine csw_i (As := [.ref xa, .int (xs (i + 1)), .ref oa]) (rest := []) ⟨hx, hb, hml, hown, hts⟩ (c_L_ask hlt hW.1 (w := xa) hW.2.1 (o := oa) hW.2.2.2.1 hW.2.2.2.2.2.2 (by omega) (x := (xs (i + 1)))) (vx_cwSW 3 hts gL_law_L_ask rfl rfl rfl hdL_ask_o ⟨Nat.le_of_ble_eq_true rfl, Nat.le_of_ble_eq_true rfl⟩) hN hE hL rfl rfl hl.1 (Nat.le_of_ble_eq_true rfl) dL_law_531 (show _ ≤ 601024 by omega) (show _ ≤ 7293034 by omega) (fun r0 H1 locs hL hq => ?_)
  refine W.eq (g2 := F0 m 534 ls [.int r0]) rfl ?_
  obtain ⟨κ1, hz, hT1, hrd1, hs1, C1, LN1, kk, nn, hC1, hR1, hG, h35, hP1⟩ := hq
  have hW1 := hW.cl hz hT1 hrd1 hs1 hR1
  refine W.tight (k := k + kk) (n := n + nn) (hg0.tr hG) ?_
  refine lv_istore (lv' := [(5, .int r0), (4, .int (nI i)), (0, .ref b), (1, .ref xa), (2, .ref ma), (3, .ref oa)]) hx hb dL_law_534 hl (by decide) rfl (fun ls hl => ?_)
  refine lv_aload_n hx hb dL_law_536 rfl (lv_at hl 4 rfl) ?_
  refine lv_aload_n hx hb dL_law_537 rfl (lv_at hl 2 rfl) ?_
  refine lv_iload hx hb dL_law_538 (lv_at hl 1 rfl) ?_
  refine lv_iconst (v := 1) hx hb dL_law_540 (by decide) ?_
  refine lv_iadd hx hb dL_law_541 ?_
  refine tp_i (nI (i + 1)) (nI_add i 1) ?_
  refine sc_i (n := i + 1) hx hb hL hX hbl hbB (by omega) (by omega) dL_law_542 ?_
  refine W.know (fun hg1 => ?_)
  have hp1 := hW1.2.2.2.2.2.2.pot
  refine cv_i (As := [.int (xs (i + 1))]) (rest := []) (b := ma) ⟨hx, hb, hml, hown, hts⟩ (c_X9_ask hW1.1 (w := ma) hW1.2.2.1 (x := (xs (i + 1)))) (cwV 1 hts gL_law_X9_ask rfl rfl rfl hdX9_ask_v ⟨Nat.le_of_ble_eq_true rfl, Nat.le_of_ble_eq_true rfl⟩) hN hE hL (rcv10 hN hW1.1 hW1.2.2.1.1) rfl rfl hl.1 (Nat.le_of_ble_eq_true rfl) dL_law_543 (show _ ≤ 601024 by omega) (show _ ≤ 7293034 by omega) (fun r1 H2 locs hL hq => ?_)
  refine W.eq (g2 := F0 m 546 ls [.int r1]) rfl ?_
  have hW2 := hW1.md hq.1 hq.2.1 (by decide)
  refine lv_istore (lv' := [(6, .int r1), (5, .int r0), (4, .int (nI i)), (0, .ref b), (1, .ref xa), (2, .ref ma), (3, .ref oa)]) hx hb dL_law_546 hl (by decide) rfl (fun ls hl => ?_)
  refine lv_goto (tgt := 757) hx hb dL_law_548 (by decide) ?_
  exact kend _ _ _ _ _ _ _ (k + kk) (n + nn) hL hW2 (by omega) (by omega) (by omega) (by omega) (lv_sub hl [2, 3, 4, 5, 6] rfl)

theorem hdL_pass_o : yL_pass.cls ≠ "java/lang/invoke/MethodHandle" ∧ yL_pass.cls ≠ "java/lang/invoke/VarHandle" ∧ (parseMethodDescriptor yL_pass.desc).map (fun d => d.parameters.length) = some 3 := by decide +kernel
theorem hdX9_pass_v : yX9_pass.cls = RX9 ∧ yX9_pass.cls ≠ "java/lang/invoke/MethodHandle" ∧ yX9_pass.cls ≠ "java/lang/invoke/VarHandle" ∧ (parseMethodDescriptor yX9_pass.desc).map (fun d => d.parameters.length) = some 1 := by decide +kernel
set_option maxHeartbeats 4000000 in
set_option maxRecDepth 100000 in
theorem law_14 {p : Program} {l : Launch} {e : Env} {s : State} {m : MethodId} {args : Array Value} {below : List Frame} {meth : Method} {c : Code} {Q : State → Prop} {D : va_G} {cs : Nat → ClassId} {B0 b L : Nat} {xs : Nat → Int32} (hlt : l.stackTraces = false) (hx : p.tables.exec = Jvm.exec) (hb : c.code = cL_law) (hml : c.maxLocals = 9) (hown : s.vm.findClass RL = some m.cls) (hts : ∀ w ∈ wsL_law, w.before args s = true) (hN : NK D cs s) (hE : EX cs B0 s s.heap) (hX : va_X b L xs s s.heap) (hbl : b < s.heap.size) (hbB : b < B0) (hL30 : L < 2 ^ 30) {xa ma oa : Nat} {i j : Nat} (hi : i + 6 ≤ L) (hj : j ≤ 511)
    (kend : ∀ (κ1 : KM) (T1 : Nat) (C1 : Nat → Nat) (LN1 : Nat → Nat → Nat) (H1 : Heap) (locs1 : List Loc) (ls1 : Array Slot) (k1 n1 : Nat), OkL B0 locs1 → LST D cs B0 κ1 H1 xa ma oa T1 C1 LN1 → T1 ≤ 25000 * (j + 1) → sumN C1 16 ≤ 24 * (j + 1) → 35 * k1 ≤ n1 + 35 * (j + 1) + 35000 → n1 ≤ PotN LN1 + 714 * (j + 1) + 600000 → lv_has ls1 9 [(4, .int (nI i)), (0, .ref b), (1, .ref xa), (2, .ref ma), (3, .ref oa)] → W p l e room_1 s m args below meth c H1 locs1 k1 n1 Q (F0 m 757 ls1 []))
    {κ : KM} {T : Nat} {C : Nat → Nat} {LN : Nat → Nat → Nat} (H : Heap) (locs : List Loc) (ls : Array Slot) (k n : Nat) (hL : OkL B0 locs) (hW : LST D cs B0 κ H xa ma oa T C LN) (hT : T ≤ 25000 * j) (hC : sumN C 16 ≤ 24 * j) (hA1 : 35 * k ≤ n + 35 * j + 35000) (hA2 : n ≤ PotN LN + 714 * j + 600000) (hl : lv_has ls 9 [(4, .int (nI i)), (0, .ref b), (1, .ref xa), (2, .ref ma), (3, .ref oa)]) : W p l e room_1 s m args below meth c H locs k n Q (F0 m 551 ls []) := by
  refine lv_aload_n hx hb dL_law_551 rfl (lv_at hl 2 rfl) ?_
  refine lv_aload_n hx hb dL_law_552 rfl (lv_at hl 1 rfl) ?_
  refine lv_iload hx hb dL_law_553 (lv_at hl 0 rfl) ?_
  refine lv_iconst (v := 1) hx hb dL_law_555 (by decide) ?_
  refine lv_iadd hx hb dL_law_556 ?_
  refine tp_i (nI (i + 1)) (nI_add i 1) ?_
  refine sc_i (n := i + 1) hx hb hL hX hbl hbB (by omega) (by omega) dL_law_557 ?_
  refine lv_aload_n hx hb dL_law_558 rfl (lv_at hl 4 rfl) ?_
  refine W.know (fun hg0 => ?_)
  have hp0 := hW.2.2.2.2.2.2.pot
  refine csw_i (As := [.ref xa, .int (xs (i + 1)), .ref oa]) (rest := []) ⟨hx, hb, hml, hown, hts⟩ (c_L_pass hlt hW.1 (w := xa) hW.2.1 (o := oa) hW.2.2.2.1 hW.2.2.2.2.2.2 (by omega) (x := (xs (i + 1)))) (vx_cwSW 3 hts gL_law_L_pass rfl rfl rfl hdL_pass_o ⟨Nat.le_of_ble_eq_true rfl, Nat.le_of_ble_eq_true rfl⟩) hN hE hL rfl rfl hl.1 (Nat.le_of_ble_eq_true rfl) dL_law_559 (show _ ≤ 601024 by omega) (show _ ≤ 7293034 by omega) (fun r0 H1 locs hL hq => ?_)
  refine W.eq (g2 := F0 m 562 ls [.int r0]) rfl ?_
  obtain ⟨κ1, hz, hT1, hrd1, hs1, C1, LN1, kk, nn, hC1, hR1, hG, h35, hP1⟩ := hq
  have hW1 := hW.cl hz hT1 hrd1 hs1 hR1
  refine W.tight (k := k + kk) (n := n + nn) (hg0.tr hG) ?_
  refine lv_istore (lv' := [(5, .int r0), (4, .int (nI i)), (0, .ref b), (1, .ref xa), (2, .ref ma), (3, .ref oa)]) hx hb dL_law_562 hl (by decide) rfl (fun ls hl => ?_)
  refine lv_aload_n hx hb dL_law_564 rfl (lv_at hl 4 rfl) ?_
  refine lv_aload_n hx hb dL_law_565 rfl (lv_at hl 2 rfl) ?_
  refine lv_iload hx hb dL_law_566 (lv_at hl 1 rfl) ?_
  refine lv_iconst (v := 1) hx hb dL_law_568 (by decide) ?_
  refine lv_iadd hx hb dL_law_569 ?_
  refine tp_i (nI (i + 1)) (nI_add i 1) ?_
  refine sc_i (n := i + 1) hx hb hL hX hbl hbB (by omega) (by omega) dL_law_570 ?_
  refine W.know (fun hg1 => ?_)
  have hp1 := hW1.2.2.2.2.2.2.pot
  refine cv_i (As := [.int (xs (i + 1))]) (rest := []) (b := ma) ⟨hx, hb, hml, hown, hts⟩ (c_X9_pass hW1.1 (w := ma) hW1.2.2.1 (x := (xs (i + 1)))) (cwV 1 hts gL_law_X9_pass rfl rfl rfl hdX9_pass_v ⟨Nat.le_of_ble_eq_true rfl, Nat.le_of_ble_eq_true rfl⟩) hN hE hL (rcv10 hN hW1.1 hW1.2.2.1.1) rfl rfl hl.1 (Nat.le_of_ble_eq_true rfl) dL_law_571 (show _ ≤ 601024 by omega) (show _ ≤ 7293034 by omega) (fun r1 H2 locs hL hq => ?_)
  refine W.eq (g2 := F0 m 574 ls [.int r1]) rfl ?_
  have hW2 := hW1.md hq.1 hq.2 (by decide)
  refine lv_istore (lv' := [(6, .int r1), (5, .int r0), (4, .int (nI i)), (0, .ref b), (1, .ref xa), (2, .ref ma), (3, .ref oa)]) hx hb dL_law_574 hl (by decide) rfl (fun ls hl => ?_)
  refine lv_goto (tgt := 757) hx hb dL_law_576 (by decide) ?_
  exact kend _ _ _ _ _ _ _ (k + kk) (n + nn) hL hW2 (by omega) (by omega) (by omega) (by omega) (lv_sub hl [2, 3, 4, 5, 6] rfl)

theorem hdL_power_o : yL_power.cls ≠ "java/lang/invoke/MethodHandle" ∧ yL_power.cls ≠ "java/lang/invoke/VarHandle" ∧ (parseMethodDescriptor yL_power.desc).map (fun d => d.parameters.length) = some 4 := by decide +kernel
theorem hdX9_power_v : yX9_power.cls = RX9 ∧ yX9_power.cls ≠ "java/lang/invoke/MethodHandle" ∧ yX9_power.cls ≠ "java/lang/invoke/VarHandle" ∧ (parseMethodDescriptor yX9_power.desc).map (fun d => d.parameters.length) = some 2 := by decide +kernel
set_option maxHeartbeats 4000000 in
set_option maxRecDepth 100000 in
theorem law_15 {p : Program} {l : Launch} {e : Env} {s : State} {m : MethodId} {args : Array Value} {below : List Frame} {meth : Method} {c : Code} {Q : State → Prop} {D : va_G} {cs : Nat → ClassId} {B0 b L : Nat} {xs : Nat → Int32} (hlt : l.stackTraces = false) (hx : p.tables.exec = Jvm.exec) (hb : c.code = cL_law) (hml : c.maxLocals = 9) (hown : s.vm.findClass RL = some m.cls) (hts : ∀ w ∈ wsL_law, w.before args s = true) (hN : NK D cs s) (hE : EX cs B0 s s.heap) (hX : va_X b L xs s s.heap) (hbl : b < s.heap.size) (hbB : b < B0) (hL30 : L < 2 ^ 30) {xa ma oa : Nat} {i j : Nat} (hi : i + 6 ≤ L) (hj : j ≤ 511)
    (kend : ∀ (κ1 : KM) (T1 : Nat) (C1 : Nat → Nat) (LN1 : Nat → Nat → Nat) (H1 : Heap) (locs1 : List Loc) (ls1 : Array Slot) (k1 n1 : Nat), OkL B0 locs1 → LST D cs B0 κ1 H1 xa ma oa T1 C1 LN1 → T1 ≤ 25000 * (j + 1) → sumN C1 16 ≤ 24 * (j + 1) → 35 * k1 ≤ n1 + 35 * (j + 1) + 35000 → n1 ≤ PotN LN1 + 714 * (j + 1) + 600000 → lv_has ls1 9 [(4, .int (nI i)), (0, .ref b), (1, .ref xa), (2, .ref ma), (3, .ref oa)] → W p l e room_1 s m args below meth c H1 locs1 k1 n1 Q (F0 m 757 ls1 []))
    {κ : KM} {T : Nat} {C : Nat → Nat} {LN : Nat → Nat → Nat} (H : Heap) (locs : List Loc) (ls : Array Slot) (k n : Nat) (hL : OkL B0 locs) (hW : LST D cs B0 κ H xa ma oa T C LN) (hT : T ≤ 25000 * j) (hC : sumN C 16 ≤ 24 * j) (hA1 : 35 * k ≤ n + 35 * j + 35000) (hA2 : n ≤ PotN LN + 714 * j + 600000) (hl : lv_has ls 9 [(4, .int (nI i)), (0, .ref b), (1, .ref xa), (2, .ref ma), (3, .ref oa)]) : W p l e room_1 s m args below meth c H locs k n Q (F0 m 579 ls []) := by
  refine lv_aload_n hx hb dL_law_579 rfl (lv_at hl 2 rfl) ?_
  refine lv_aload_n hx hb dL_law_580 rfl (lv_at hl 1 rfl) ?_
  refine lv_iload hx hb dL_law_581 (lv_at hl 0 rfl) ?_
  refine lv_iconst (v := 1) hx hb dL_law_583 (by decide) ?_
  refine lv_iadd hx hb dL_law_584 ?_
  refine tp_i (nI (i + 1)) (nI_add i 1) ?_
  refine sc_i (n := i + 1) hx hb hL hX hbl hbB (by omega) (by omega) dL_law_585 ?_
  refine lv_aload_n hx hb dL_law_586 rfl (lv_at hl 1 rfl) ?_
  refine lv_iload hx hb dL_law_587 (lv_at hl 0 rfl) ?_
  refine lv_iconst (v := 2) hx hb dL_law_589 (by decide) ?_
  refine lv_iadd hx hb dL_law_590 ?_
  refine tp_i (nI (i + 2)) (nI_add i 2) ?_
  refine sc_i (n := i + 2) hx hb hL hX hbl hbB (by omega) (by omega) dL_law_591 ?_
  refine sc_b hx hb dL_law_592 dL_law_595 dL_law_596 dL_law_599 (fun z592 qz592 => ?_)
  refine lv_aload_n hx hb dL_law_600 rfl (lv_at hl 4 rfl) ?_
  refine W.know (fun hg0 => ?_)
  have hp0 := hW.2.2.2.2.2.2.pot
  refine csw_i (As := [.ref xa, .int (xs (i + 1)), .int z592, .ref oa]) (rest := []) ⟨hx, hb, hml, hown, hts⟩ (c_L_power hlt hW.1 (w := xa) hW.2.1 (o := oa) hW.2.2.2.1 hW.2.2.2.2.2.2 (by omega) (x := (xs (i + 1))) (b_y := z592) qz592) (vx_cwSW 4 hts gL_law_L_power rfl rfl rfl hdL_power_o ⟨Nat.le_of_ble_eq_true rfl, Nat.le_of_ble_eq_true rfl⟩) hN hE hL rfl rfl hl.1 (Nat.le_of_ble_eq_true rfl) dL_law_601 (show _ ≤ 601024 by omega) (show _ ≤ 7293034 by omega) (fun r0 H1 locs hL hq => ?_)
  refine W.eq (g2 := F0 m 604 ls [.int r0]) rfl ?_
  obtain ⟨κ1, hz, hT1, hrd1, hs1, C1, LN1, kk, nn, hC1, hR1, hG, h35, hP1⟩ := hq
  have hW1 := hW.cl hz hT1 hrd1 hs1 hR1
  refine W.tight (k := k + kk) (n := n + nn) (hg0.tr hG) ?_
  refine lv_istore (lv' := [(5, .int r0), (4, .int (nI i)), (0, .ref b), (1, .ref xa), (2, .ref ma), (3, .ref oa)]) hx hb dL_law_604 hl (by decide) rfl (fun ls hl => ?_)
  refine lv_aload_n hx hb dL_law_606 rfl (lv_at hl 4 rfl) ?_
  refine lv_aload_n hx hb dL_law_607 rfl (lv_at hl 2 rfl) ?_
  refine lv_iload hx hb dL_law_608 (lv_at hl 1 rfl) ?_
  refine lv_iconst (v := 1) hx hb dL_law_610 (by decide) ?_
  refine lv_iadd hx hb dL_law_611 ?_
  refine tp_i (nI (i + 1)) (nI_add i 1) ?_
  refine sc_i (n := i + 1) hx hb hL hX hbl hbB (by omega) (by omega) dL_law_612 ?_
  refine lv_aload_n hx hb dL_law_613 rfl (lv_at hl 2 rfl) ?_
  refine lv_iload hx hb dL_law_614 (lv_at hl 1 rfl) ?_
  refine lv_iconst (v := 2) hx hb dL_law_616 (by decide) ?_
  refine lv_iadd hx hb dL_law_617 ?_
  refine tp_i (nI (i + 2)) (nI_add i 2) ?_
  refine sc_i (n := i + 2) hx hb hL hX hbl hbB (by omega) (by omega) dL_law_618 ?_
  refine sc_b hx hb dL_law_619 dL_law_622 dL_law_623 dL_law_626 (fun z619 qz619 => ?_)
  refine W.know (fun hg1 => ?_)
  have hp1 := hW1.2.2.2.2.2.2.pot
  refine cv_i (As := [.int (xs (i + 1)), .int z619]) (rest := []) (b := ma) ⟨hx, hb, hml, hown, hts⟩ (c_X9_power hW1.1 (w := ma) hW1.2.2.1 (x := (xs (i + 1))) (y := z619)) (cwV 2 hts gL_law_X9_power rfl rfl rfl hdX9_power_v ⟨Nat.le_of_ble_eq_true rfl, Nat.le_of_ble_eq_true rfl⟩) hN hE hL (rcv10 hN hW1.1 hW1.2.2.1.1) rfl rfl hl.1 (Nat.le_of_ble_eq_true rfl) dL_law_627 (show _ ≤ 601024 by omega) (show _ ≤ 7293034 by omega) (fun r1 H2 locs hL hq => ?_)
  refine W.eq (g2 := F0 m 630 ls [.int r1]) rfl ?_
  have hW2 := hW1.md hq.1 hq.2.1 (by decide)
  refine lv_istore (lv' := [(6, .int r1), (5, .int r0), (4, .int (nI i)), (0, .ref b), (1, .ref xa), (2, .ref ma), (3, .ref oa)]) hx hb dL_law_630 hl (by decide) rfl (fun ls hl => ?_)
  refine lv_goto (tgt := 757) hx hb dL_law_632 (by decide) ?_
  exact kend _ _ _ _ _ _ _ (k + kk) (n + nn) hL hW2 (by omega) (by omega) (by omega) (by omega) (lv_sub hl [2, 3, 4, 5, 6] rfl)

theorem hdL_cut_o : yL_cut.cls ≠ "java/lang/invoke/MethodHandle" ∧ yL_cut.cls ≠ "java/lang/invoke/VarHandle" ∧ (parseMethodDescriptor yL_cut.desc).map (fun d => d.parameters.length) = some 5 := by decide +kernel
theorem hdX9_cut_v : yX9_cut.cls = RX9 ∧ yX9_cut.cls ≠ "java/lang/invoke/MethodHandle" ∧ yX9_cut.cls ≠ "java/lang/invoke/VarHandle" ∧ (parseMethodDescriptor yX9_cut.desc).map (fun d => d.parameters.length) = some 3 := by decide +kernel
set_option maxHeartbeats 4000000 in
set_option maxRecDepth 100000 in
theorem law_16 {p : Program} {l : Launch} {e : Env} {s : State} {m : MethodId} {args : Array Value} {below : List Frame} {meth : Method} {c : Code} {Q : State → Prop} {D : va_G} {cs : Nat → ClassId} {B0 b L : Nat} {xs : Nat → Int32} (hlt : l.stackTraces = false) (hx : p.tables.exec = Jvm.exec) (hb : c.code = cL_law) (hml : c.maxLocals = 9) (hown : s.vm.findClass RL = some m.cls) (hts : ∀ w ∈ wsL_law, w.before args s = true) (hN : NK D cs s) (hE : EX cs B0 s s.heap) (hX : va_X b L xs s s.heap) (hbl : b < s.heap.size) (hbB : b < B0) (hL30 : L < 2 ^ 30) {xa ma oa : Nat} {i j : Nat} (hi : i + 6 ≤ L) (hj : j ≤ 511)
    (kend : ∀ (κ1 : KM) (T1 : Nat) (C1 : Nat → Nat) (LN1 : Nat → Nat → Nat) (H1 : Heap) (locs1 : List Loc) (ls1 : Array Slot) (k1 n1 : Nat), OkL B0 locs1 → LST D cs B0 κ1 H1 xa ma oa T1 C1 LN1 → T1 ≤ 25000 * (j + 1) → sumN C1 16 ≤ 24 * (j + 1) → 35 * k1 ≤ n1 + 35 * (j + 1) + 35000 → n1 ≤ PotN LN1 + 714 * (j + 1) + 600000 → lv_has ls1 9 [(4, .int (nI i)), (0, .ref b), (1, .ref xa), (2, .ref ma), (3, .ref oa)] → W p l e room_1 s m args below meth c H1 locs1 k1 n1 Q (F0 m 757 ls1 []))
    {κ : KM} {T : Nat} {C : Nat → Nat} {LN : Nat → Nat → Nat} (H : Heap) (locs : List Loc) (ls : Array Slot) (k n : Nat) (hL : OkL B0 locs) (hW : LST D cs B0 κ H xa ma oa T C LN) (hT : T ≤ 25000 * j) (hC : sumN C 16 ≤ 24 * j) (hA1 : 35 * k ≤ n + 35 * j + 35000) (hA2 : n ≤ PotN LN + 714 * j + 600000) (hl : lv_has ls 9 [(4, .int (nI i)), (0, .ref b), (1, .ref xa), (2, .ref ma), (3, .ref oa)]) : W p l e room_1 s m args below meth c H locs k n Q (F0 m 635 ls []) := by
  refine lv_aload_n hx hb dL_law_635 rfl (lv_at hl 2 rfl) ?_
  refine lv_aload_n hx hb dL_law_636 rfl (lv_at hl 1 rfl) ?_
  refine lv_iload hx hb dL_law_637 (lv_at hl 0 rfl) ?_
  refine lv_iconst (v := 1) hx hb dL_law_639 (by decide) ?_
  refine lv_iadd hx hb dL_law_640 ?_
  refine tp_i (nI (i + 1)) (nI_add i 1) ?_
  refine sc_i (n := i + 1) hx hb hL hX hbl hbB (by omega) (by omega) dL_law_641 ?_
  refine lv_aload_n hx hb dL_law_642 rfl (lv_at hl 1 rfl) ?_
  refine lv_iload hx hb dL_law_643 (lv_at hl 0 rfl) ?_
  refine lv_iconst (v := 2) hx hb dL_law_645 (by decide) ?_
  refine lv_iadd hx hb dL_law_646 ?_
  refine tp_i (nI (i + 2)) (nI_add i 2) ?_
  refine sc_i (n := i + 2) hx hb hL hX hbl hbB (by omega) (by omega) dL_law_647 ?_
  refine lv_aload_n hx hb dL_law_648 rfl (lv_at hl 1 rfl) ?_
  refine lv_iload hx hb dL_law_649 (lv_at hl 0 rfl) ?_
  refine lv_iconst (v := 3) hx hb dL_law_651 (by decide) ?_
  refine lv_iadd hx hb dL_law_652 ?_
  refine tp_i (nI (i + 3)) (nI_add i 3) ?_
  refine sc_i (n := i + 3) hx hb hL hX hbl hbB (by omega) (by omega) dL_law_653 ?_
  refine sc_b hx hb dL_law_654 dL_law_657 dL_law_658 dL_law_661 (fun z654 qz654 => ?_)
  refine lv_aload_n hx hb dL_law_662 rfl (lv_at hl 4 rfl) ?_
  refine W.know (fun hg0 => ?_)
  have hp0 := hW.2.2.2.2.2.2.pot
  refine csw_i (As := [.ref xa, .int (xs (i + 1)), .int (xs (i + 2)), .int z654, .ref oa]) (rest := []) ⟨hx, hb, hml, hown, hts⟩ (c_L_cut hlt hW.1 (w := xa) hW.2.1 (o := oa) hW.2.2.2.1 hW.2.2.2.2.2.2 (by omega) (x := (xs (i + 1))) (y := (xs (i + 2))) (b_z := z654) qz654) (vx_cwSW 5 hts gL_law_L_cut rfl rfl rfl hdL_cut_o ⟨Nat.le_of_ble_eq_true rfl, Nat.le_of_ble_eq_true rfl⟩) hN hE hL rfl rfl hl.1 (Nat.le_of_ble_eq_true rfl) dL_law_663 (show _ ≤ 601024 by omega) (show _ ≤ 7293034 by omega) (fun r0 H1 locs hL hq => ?_)
  refine W.eq (g2 := F0 m 666 ls [.int r0]) rfl ?_
  obtain ⟨κ1, hz, hT1, hrd1, hs1, C1, LN1, kk, nn, hC1, hR1, hG, h35, hP1⟩ := hq
  have hW1 := hW.cl hz hT1 hrd1 hs1 hR1
  refine W.tight (k := k + kk) (n := n + nn) (hg0.tr hG) ?_
  refine lv_istore (lv' := [(5, .int r0), (4, .int (nI i)), (0, .ref b), (1, .ref xa), (2, .ref ma), (3, .ref oa)]) hx hb dL_law_666 hl (by decide) rfl (fun ls hl => ?_)
  refine lv_aload_n hx hb dL_law_668 rfl (lv_at hl 4 rfl) ?_
  refine lv_aload_n hx hb dL_law_669 rfl (lv_at hl 2 rfl) ?_
  refine lv_iload hx hb dL_law_670 (lv_at hl 1 rfl) ?_
  refine lv_iconst (v := 1) hx hb dL_law_672 (by decide) ?_
  refine lv_iadd hx hb dL_law_673 ?_
  refine tp_i (nI (i + 1)) (nI_add i 1) ?_
  refine sc_i (n := i + 1) hx hb hL hX hbl hbB (by omega) (by omega) dL_law_674 ?_
  refine lv_aload_n hx hb dL_law_675 rfl (lv_at hl 2 rfl) ?_
  refine lv_iload hx hb dL_law_676 (lv_at hl 1 rfl) ?_
  refine lv_iconst (v := 2) hx hb dL_law_678 (by decide) ?_
  refine lv_iadd hx hb dL_law_679 ?_
  refine tp_i (nI (i + 2)) (nI_add i 2) ?_
  refine sc_i (n := i + 2) hx hb hL hX hbl hbB (by omega) (by omega) dL_law_680 ?_
  refine lv_aload_n hx hb dL_law_681 rfl (lv_at hl 2 rfl) ?_
  refine lv_iload hx hb dL_law_682 (lv_at hl 1 rfl) ?_
  refine lv_iconst (v := 3) hx hb dL_law_684 (by decide) ?_
  refine lv_iadd hx hb dL_law_685 ?_
  refine tp_i (nI (i + 3)) (nI_add i 3) ?_
  refine sc_i (n := i + 3) hx hb hL hX hbl hbB (by omega) (by omega) dL_law_686 ?_
  refine sc_b hx hb dL_law_687 dL_law_690 dL_law_691 dL_law_694 (fun z687 qz687 => ?_)
  refine W.know (fun hg1 => ?_)
  have hp1 := hW1.2.2.2.2.2.2.pot
  refine cv_i (As := [.int (xs (i + 1)), .int (xs (i + 2)), .int z687]) (rest := []) (b := ma) ⟨hx, hb, hml, hown, hts⟩ (c_X9_cut hW1.1 (w := ma) hW1.2.2.1 (x := (xs (i + 1))) (y := (xs (i + 2))) (z := z687)) (cwV 3 hts gL_law_X9_cut rfl rfl rfl hdX9_cut_v ⟨Nat.le_of_ble_eq_true rfl, Nat.le_of_ble_eq_true rfl⟩) hN hE hL (rcv10 hN hW1.1 hW1.2.2.1.1) rfl rfl hl.1 (Nat.le_of_ble_eq_true rfl) dL_law_695 (show _ ≤ 601024 by omega) (show _ ≤ 7293034 by omega) (fun r1 H2 locs hL hq => ?_)
  refine W.eq (g2 := F0 m 698 ls [.int r1]) rfl ?_
  have hW2 := hW1.md hq.1 hq.2.1 (by decide)
  refine lv_istore (lv' := [(6, .int r1), (5, .int r0), (4, .int (nI i)), (0, .ref b), (1, .ref xa), (2, .ref ma), (3, .ref oa)]) hx hb dL_law_698 hl (by decide) rfl (fun ls hl => ?_)
  refine lv_goto (tgt := 757) hx hb dL_law_700 (by decide) ?_
  exact kend _ _ _ _ _ _ _ (k + kk) (n + nn) hL hW2 (by omega) (by omega) (by omega) (by omega) (lv_sub hl [2, 3, 4, 5, 6] rfl)

theorem hdL_lead_o : yL_lead.cls ≠ "java/lang/invoke/MethodHandle" ∧ yL_lead.cls ≠ "java/lang/invoke/VarHandle" ∧ (parseMethodDescriptor yL_lead.desc).map (fun d => d.parameters.length) = some 3 := by decide +kernel
theorem hdX9_lead_v : yX9_lead.cls = RX9 ∧ yX9_lead.cls ≠ "java/lang/invoke/MethodHandle" ∧ yX9_lead.cls ≠ "java/lang/invoke/VarHandle" ∧ (parseMethodDescriptor yX9_lead.desc).map (fun d => d.parameters.length) = some 1 := by decide +kernel
set_option maxHeartbeats 4000000 in
set_option maxRecDepth 100000 in
theorem law_17 {p : Program} {l : Launch} {e : Env} {s : State} {m : MethodId} {args : Array Value} {below : List Frame} {meth : Method} {c : Code} {Q : State → Prop} {D : va_G} {cs : Nat → ClassId} {B0 b L : Nat} {xs : Nat → Int32} (hlt : l.stackTraces = false) (hx : p.tables.exec = Jvm.exec) (hb : c.code = cL_law) (hml : c.maxLocals = 9) (hown : s.vm.findClass RL = some m.cls) (hts : ∀ w ∈ wsL_law, w.before args s = true) (hN : NK D cs s) (hE : EX cs B0 s s.heap) (hX : va_X b L xs s s.heap) (hbl : b < s.heap.size) (hbB : b < B0) (hL30 : L < 2 ^ 30) {xa ma oa : Nat} {i j : Nat} (hi : i + 6 ≤ L) (hj : j ≤ 511)
    (kend : ∀ (κ1 : KM) (T1 : Nat) (C1 : Nat → Nat) (LN1 : Nat → Nat → Nat) (H1 : Heap) (locs1 : List Loc) (ls1 : Array Slot) (k1 n1 : Nat), OkL B0 locs1 → LST D cs B0 κ1 H1 xa ma oa T1 C1 LN1 → T1 ≤ 25000 * (j + 1) → sumN C1 16 ≤ 24 * (j + 1) → 35 * k1 ≤ n1 + 35 * (j + 1) + 35000 → n1 ≤ PotN LN1 + 714 * (j + 1) + 600000 → lv_has ls1 9 [(4, .int (nI i)), (0, .ref b), (1, .ref xa), (2, .ref ma), (3, .ref oa)] → W p l e room_1 s m args below meth c H1 locs1 k1 n1 Q (F0 m 757 ls1 []))
    {κ : KM} {T : Nat} {C : Nat → Nat} {LN : Nat → Nat → Nat} (H : Heap) (locs : List Loc) (ls : Array Slot) (k n : Nat) (hL : OkL B0 locs) (hW : LST D cs B0 κ H xa ma oa T C LN) (hT : T ≤ 25000 * j) (hC : sumN C 16 ≤ 24 * j) (hA1 : 35 * k ≤ n + 35 * j + 35000) (hA2 : n ≤ PotN LN + 714 * j + 600000) (hl : lv_has ls 9 [(4, .int (nI i)), (0, .ref b), (1, .ref xa), (2, .ref ma), (3, .ref oa)]) : W p l e room_1 s m args below meth c H locs k n Q (F0 m 703 ls []) := by
  refine lv_aload_n hx hb dL_law_703 rfl (lv_at hl 2 rfl) ?_
  refine lv_aload_n hx hb dL_law_704 rfl (lv_at hl 1 rfl) ?_
  refine lv_iload hx hb dL_law_705 (lv_at hl 0 rfl) ?_
  refine lv_iconst (v := 1) hx hb dL_law_707 (by decide) ?_
  refine lv_iadd hx hb dL_law_708 ?_
  refine tp_i (nI (i + 1)) (nI_add i 1) ?_
  refine sc_i (n := i + 1) hx hb hL hX hbl hbB (by omega) (by omega) dL_law_709 ?_
  refine lv_aload_n hx hb dL_law_710 rfl (lv_at hl 4 rfl) ?_
  refine W.know (fun hg0 => ?_)
  have hp0 := hW.2.2.2.2.2.2.pot
  refine csw_i (As := [.ref xa, .int (xs (i + 1)), .ref oa]) (rest := []) ⟨hx, hb, hml, hown, hts⟩ (c_L_lead hlt hW.1 (w := xa) hW.2.1 (o := oa) hW.2.2.2.1 hW.2.2.2.2.2.2 (by omega) (x := (xs (i + 1)))) (vx_cwSW 3 hts gL_law_L_lead rfl rfl rfl hdL_lead_o ⟨Nat.le_of_ble_eq_true rfl, Nat.le_of_ble_eq_true rfl⟩) hN hE hL rfl rfl hl.1 (Nat.le_of_ble_eq_true rfl) dL_law_711 (show _ ≤ 601024 by omega) (show _ ≤ 7293034 by omega) (fun r0 H1 locs hL hq => ?_)
  refine W.eq (g2 := F0 m 714 ls [.int r0]) rfl ?_
  obtain ⟨κ1, hz, hT1, hrd1, hs1, C1, LN1, kk, nn, hC1, hR1, hG, h35, hP1⟩ := hq
  have hW1 := hW.cl hz hT1 hrd1 hs1 hR1
  refine W.tight (k := k + kk) (n := n + nn) (hg0.tr hG) ?_
  refine lv_istore (lv' := [(5, .int r0), (4, .int (nI i)), (0, .ref b), (1, .ref xa), (2, .ref ma), (3, .ref oa)]) hx hb dL_law_714 hl (by decide) rfl (fun ls hl => ?_)
  refine lv_aload_n hx hb dL_law_716 rfl (lv_at hl 4 rfl) ?_
  refine lv_aload_n hx hb dL_law_717 rfl (lv_at hl 2 rfl) ?_
  refine lv_iload hx hb dL_law_718 (lv_at hl 1 rfl) ?_
  refine lv_iconst (v := 1) hx hb dL_law_720 (by decide) ?_
  refine lv_iadd hx hb dL_law_721 ?_
  refine tp_i (nI (i + 1)) (nI_add i 1) ?_
  refine sc_i (n := i + 1) hx hb hL hX hbl hbB (by omega) (by omega) dL_law_722 ?_
  refine W.know (fun hg1 => ?_)
  have hp1 := hW1.2.2.2.2.2.2.pot
  refine cv_i (As := [.int (xs (i + 1))]) (rest := []) (b := ma) ⟨hx, hb, hml, hown, hts⟩ (c_X9_lead hW1.1 (w := ma) hW1.2.2.1 (x := (xs (i + 1)))) (cwV 1 hts gL_law_X9_lead rfl rfl rfl hdX9_lead_v ⟨Nat.le_of_ble_eq_true rfl, Nat.le_of_ble_eq_true rfl⟩) hN hE hL (rcv10 hN hW1.1 hW1.2.2.1.1) rfl rfl hl.1 (Nat.le_of_ble_eq_true rfl) dL_law_723 (show _ ≤ 601024 by omega) (show _ ≤ 7293034 by omega) (fun r1 H2 locs hL hq => ?_)
  refine W.eq (g2 := F0 m 726 ls [.int r1]) rfl ?_
  have hW2 := hW1.md hq.1 hq.2 (by decide)
  refine lv_istore (lv' := [(6, .int r1), (5, .int r0), (4, .int (nI i)), (0, .ref b), (1, .ref xa), (2, .ref ma), (3, .ref oa)]) hx hb dL_law_726 hl (by decide) rfl (fun ls hl => ?_)
  refine lv_goto (tgt := 757) hx hb dL_law_728 (by decide) ?_
  exact kend _ _ _ _ _ _ _ (k + kk) (n + nn) hL hW2 (by omega) (by omega) (by omega) (by omega) (lv_sub hl [2, 3, 4, 5, 6] rfl)

theorem hdX8_undo_v : yX8_undo.cls = RX8 ∧ yX8_undo.cls ≠ "java/lang/invoke/MethodHandle" ∧ yX8_undo.cls ≠ "java/lang/invoke/VarHandle" ∧ (parseMethodDescriptor yX8_undo.desc).map (fun d => d.parameters.length) = some 0 := by decide +kernel
theorem hdX9_undo_v : yX9_undo.cls = RX9 ∧ yX9_undo.cls ≠ "java/lang/invoke/MethodHandle" ∧ yX9_undo.cls ≠ "java/lang/invoke/VarHandle" ∧ (parseMethodDescriptor yX9_undo.desc).map (fun d => d.parameters.length) = some 0 := by decide +kernel
set_option maxHeartbeats 4000000 in
set_option maxRecDepth 100000 in
theorem law_18 {p : Program} {l : Launch} {e : Env} {s : State} {m : MethodId} {args : Array Value} {below : List Frame} {meth : Method} {c : Code} {Q : State → Prop} {D : va_G} {cs : Nat → ClassId} {B0 b L : Nat} {xs : Nat → Int32} (hlt : l.stackTraces = false) (hx : p.tables.exec = Jvm.exec) (hb : c.code = cL_law) (hml : c.maxLocals = 9) (hown : s.vm.findClass RL = some m.cls) (hts : ∀ w ∈ wsL_law, w.before args s = true) (hN : NK D cs s) (hE : EX cs B0 s s.heap) (hX : va_X b L xs s s.heap) (hbl : b < s.heap.size) (hbB : b < B0) (hL30 : L < 2 ^ 30) {xa ma oa : Nat} {i j : Nat} (hi : i + 6 ≤ L) (hj : j ≤ 511)
    (kend : ∀ (κ1 : KM) (T1 : Nat) (C1 : Nat → Nat) (LN1 : Nat → Nat → Nat) (H1 : Heap) (locs1 : List Loc) (ls1 : Array Slot) (k1 n1 : Nat), OkL B0 locs1 → LST D cs B0 κ1 H1 xa ma oa T1 C1 LN1 → T1 ≤ 25000 * (j + 1) → sumN C1 16 ≤ 24 * (j + 1) → 35 * k1 ≤ n1 + 35 * (j + 1) + 35000 → n1 ≤ PotN LN1 + 714 * (j + 1) + 600000 → lv_has ls1 9 [(4, .int (nI i)), (0, .ref b), (1, .ref xa), (2, .ref ma), (3, .ref oa)] → W p l e room_1 s m args below meth c H1 locs1 k1 n1 Q (F0 m 757 ls1 []))
    {κ : KM} {T : Nat} {C : Nat → Nat} {LN : Nat → Nat → Nat} (H : Heap) (locs : List Loc) (ls : Array Slot) (k n : Nat) (hL : OkL B0 locs) (hW : LST D cs B0 κ H xa ma oa T C LN) (hT : T ≤ 25000 * j) (hC : sumN C 16 ≤ 24 * j) (hA1 : 35 * k ≤ n + 35 * j + 35000) (hA2 : n ≤ PotN LN + 714 * j + 600000) (hl : lv_has ls 9 [(4, .int (nI i)), (0, .ref b), (1, .ref xa), (2, .ref ma), (3, .ref oa)]) : W p l e room_1 s m args below meth c H locs k n Q (F0 m 731 ls []) := by
  refine lv_aload_n hx hb dL_law_731 rfl (lv_at hl 2 rfl) ?_
  refine W.know (fun hg0 => ?_)
  have hp0 := hW.2.2.2.2.2.2.pot
  refine cv_i (As := []) (rest := []) (b := xa) ⟨hx, hb, hml, hown, hts⟩ (c_X8_undo hW.1 (w := xa) hW.2.1 hW.2.2.2.2.2.2) (cwV 0 hts gL_law_X8_undo rfl rfl rfl hdX8_undo_v ⟨Nat.le_of_ble_eq_true rfl, Nat.le_of_ble_eq_true rfl⟩) hN hE hL (rcv9 hN hW.1 hW.2.1.1) rfl rfl hl.1 (Nat.le_of_ble_eq_true rfl) dL_law_732 (show _ ≤ 601024 by omega) (show _ ≤ 7293034 by omega) (fun r0 H1 locs hL hq => ?_)
  refine W.eq (g2 := F0 m 735 ls [.int r0]) rfl ?_
  obtain ⟨κ1, hz, hT1, LN1, kk, nn, hR1, hG, h35, hP1⟩ := hq
  have hW1 := hW.kw hz hT1 hR1
  refine W.tight (k := k + kk) (n := n + nn) (hg0.tr hG) ?_
  refine lv_pop hx hb dL_law_735 rfl ?_
  refine lv_aload_n hx hb dL_law_736 rfl (lv_at hl 3 rfl) ?_
  refine W.know (fun hg1 => ?_)
  have hp1 := hW1.2.2.2.2.2.2.pot
  refine cv_i (As := []) (rest := []) (b := ma) ⟨hx, hb, hml, hown, hts⟩ (c_X9_undo hW1.1 (w := ma) hW1.2.2.1) (cwV 0 hts gL_law_X9_undo rfl rfl rfl hdX9_undo_v ⟨Nat.le_of_ble_eq_true rfl, Nat.le_of_ble_eq_true rfl⟩) hN hE hL (rcv10 hN hW1.1 hW1.2.2.1.1) rfl rfl hl.1 (Nat.le_of_ble_eq_true rfl) dL_law_737 (show _ ≤ 601024 by omega) (show _ ≤ 7293034 by omega) (fun r1 H2 locs hL hq => ?_)
  refine W.eq (g2 := F0 m 740 ls [.int r1]) rfl ?_
  have hW2 := hW1.md hq.1 hq.2 (by decide)
  refine lv_pop hx hb dL_law_740 rfl ?_
  refine lv_goto (tgt := 757) hx hb dL_law_741 (by decide) ?_
  exact kend _ _ _ _ _ _ _ (k + kk) (n + nn) hL hW2 (by omega) (by omega) (by omega) (by omega) (lv_sub hl [0, 1, 2, 3, 4] rfl)

theorem hdX8_checksum_v : yX8_checksum.cls = RX8 ∧ yX8_checksum.cls ≠ "java/lang/invoke/MethodHandle" ∧ yX8_checksum.cls ≠ "java/lang/invoke/VarHandle" ∧ (parseMethodDescriptor yX8_checksum.desc).map (fun d => d.parameters.length) = some 0 := by decide +kernel
theorem hdX9_checksum_v : yX9_checksum.cls = RX9 ∧ yX9_checksum.cls ≠ "java/lang/invoke/MethodHandle" ∧ yX9_checksum.cls ≠ "java/lang/invoke/VarHandle" ∧ (parseMethodDescriptor yX9_checksum.desc).map (fun d => d.parameters.length) = some 0 := by decide +kernel
set_option maxHeartbeats 4000000 in
set_option maxRecDepth 100000 in
theorem law_19 {p : Program} {l : Launch} {e : Env} {s : State} {m : MethodId} {args : Array Value} {below : List Frame} {meth : Method} {c : Code} {Q : State → Prop} {D : va_G} {cs : Nat → ClassId} {B0 b L : Nat} {xs : Nat → Int32} (hlt : l.stackTraces = false) (hx : p.tables.exec = Jvm.exec) (hb : c.code = cL_law) (hml : c.maxLocals = 9) (hown : s.vm.findClass RL = some m.cls) (hts : ∀ w ∈ wsL_law, w.before args s = true) (hN : NK D cs s) (hE : EX cs B0 s s.heap) (hX : va_X b L xs s s.heap) (hbl : b < s.heap.size) (hbB : b < B0) (hL30 : L < 2 ^ 30) {xa ma oa : Nat} {i j : Nat} (hi : i + 6 ≤ L) (hj : j ≤ 511)
    (kend : ∀ (κ1 : KM) (T1 : Nat) (C1 : Nat → Nat) (LN1 : Nat → Nat → Nat) (H1 : Heap) (locs1 : List Loc) (ls1 : Array Slot) (k1 n1 : Nat), OkL B0 locs1 → LST D cs B0 κ1 H1 xa ma oa T1 C1 LN1 → T1 ≤ 25000 * (j + 1) → sumN C1 16 ≤ 24 * (j + 1) → 35 * k1 ≤ n1 + 35 * (j + 1) + 35000 → n1 ≤ PotN LN1 + 714 * (j + 1) + 600000 → lv_has ls1 9 [(4, .int (nI i)), (0, .ref b), (1, .ref xa), (2, .ref ma), (3, .ref oa)] → W p l e room_1 s m args below meth c H1 locs1 k1 n1 Q (F0 m 757 ls1 []))
    {κ : KM} {T : Nat} {C : Nat → Nat} {LN : Nat → Nat → Nat} (H : Heap) (locs : List Loc) (ls : Array Slot) (k n : Nat) (hL : OkL B0 locs) (hW : LST D cs B0 κ H xa ma oa T C LN) (hT : T ≤ 25000 * j) (hC : sumN C 16 ≤ 24 * j) (hA1 : 35 * k ≤ n + 35 * j + 35000) (hA2 : n ≤ PotN LN + 714 * j + 600000) (hl : lv_has ls 9 [(4, .int (nI i)), (0, .ref b), (1, .ref xa), (2, .ref ma), (3, .ref oa)]) : W p l e room_1 s m args below meth c H locs k n Q (F0 m 744 ls []) := by
  refine lv_aload_n hx hb dL_law_744 rfl (lv_at hl 2 rfl) ?_
  refine W.know (fun hg0 => ?_)
  have hp0 := hW.2.2.2.2.2.2.pot
  refine cv_l (As := []) (rest := []) (b := xa) ⟨hx, hb, hml, hown, hts⟩ (c_X8_checksum hW.1 (w := xa) hW.2.1 hW.2.2.2.2.2.2) (cwV 0 hts gL_law_X8_checksum rfl rfl rfl hdX8_checksum_v ⟨Nat.le_of_ble_eq_true rfl, Nat.le_of_ble_eq_true rfl⟩) hN hE hL (rcv9 hN hW.1 hW.2.1.1) rfl rfl hl.1 (Nat.le_of_ble_eq_true rfl) dL_law_745 (show _ ≤ 601024 by omega) (show _ ≤ 7293034 by omega) (fun r0 H1 locs hL hq => ?_)
  refine W.eq (g2 := F0 m 748 ls [.long r0]) rfl ?_
  obtain ⟨κ1, hz, hT1, C1, LN1, kk, nn, hC1, hR1, hG, h35, hP1⟩ := hq
  have hW1 := hW.kw hz hT1 hR1
  refine W.tight (k := k + kk) (n := n + nn) (hg0.tr hG) ?_
  refine lv_pop2_2 hx hb dL_law_748 rfl ?_
  refine lv_aload_n hx hb dL_law_749 rfl (lv_at hl 3 rfl) ?_
  refine W.know (fun hg1 => ?_)
  have hp1 := hW1.2.2.2.2.2.2.pot
  refine cv_l (As := []) (rest := []) (b := ma) ⟨hx, hb, hml, hown, hts⟩ (c_X9_checksum hW1.1 (w := ma) hW1.2.2.1 (by omega)) (cwV 0 hts gL_law_X9_checksum rfl rfl rfl hdX9_checksum_v ⟨Nat.le_of_ble_eq_true rfl, Nat.le_of_ble_eq_true rfl⟩) hN hE hL (rcv10 hN hW1.1 hW1.2.2.1.1) rfl rfl hl.1 (Nat.le_of_ble_eq_true rfl) dL_law_750 (show _ ≤ 601024 by omega) (show _ ≤ 7293034 by omega) (fun r1 H2 locs hL hq => ?_)
  refine W.eq (g2 := F0 m 753 ls [.long r1]) rfl ?_
  have hW2 := hW1.md hq.1 hq.2 (by decide)
  refine lv_pop2_2 hx hb dL_law_753 rfl ?_
  refine lv_goto (tgt := 757) hx hb dL_law_754 (by decide) ?_
  exact kend _ _ _ _ _ _ _ (k + kk) (n + nn) hL hW2 (by omega) (by omega) (by omega) (by omega) (lv_sub hl [0, 1, 2, 3, 4] rfl)

theorem nI_sub6 {L : Nat} (h : L < 2 ^ 30) : (nI L - 6).toInt = (L : Int) - 6 := by
  rw [Int32.toInt_sub, nI_toInt (by omega), show (6 : Int32).toInt = 6 by decide]
  exact Int.bmod_eq_of_le (by omega) (by omega)
theorem law_more {i L : Nat} (h : L < 2 ^ 30) (hi : i + 6 ≤ L) : ¬ (nI L - 6 < nI i) := by
  rw [Int32.lt_iff_toInt_lt, nI_sub6 h, nI_toInt (by omega)]; omega
theorem law_done {i L : Nat} (h : L < 2 ^ 30) (hi9 : i ≤ L) (hi : L < i + 6) : nI L - 6 < nI i := by
  rw [Int32.lt_iff_toInt_lt, nI_sub6 h, nI_toInt (by omega)]; omega

set_option maxHeartbeats 4000000 in
theorem law_exit {p : Program} {l : Launch} {e : Env} {s : State} {m : MethodId} {args : Array Value} {below : List Frame} {meth : Method} {c : Code} {Q : State → Prop} {D : va_G} {cs : Nat → ClassId} {B0 b L : Nat} {xs : Nat → Int32} (hlt : l.stackTraces = false) (hx : p.tables.exec = Jvm.exec) (hb : c.code = cL_law) (hml : c.maxLocals = 9) (hown : s.vm.findClass RL = some m.cls) (hts : ∀ w ∈ wsL_law, w.before args s = true) (hN : NK D cs s) (hE : EX cs B0 s s.heap) (hX : va_X b L xs s s.heap) (hbl : b < s.heap.size) (hbB : b < B0) (hL30 : L < 2 ^ 30) {xa ma oa : Nat} (kfin : ∀ (H : Heap) (locs : List Loc) (ls : Array Slot), OkL B0 locs → W p l e room_1 s m args below meth c H locs 601024 7293034 Q (F0 m 764 ls [.int 1])) {i j : Nat} (hj : j ≤ 512) (hi : i ≤ L) (hd : L < i + 6) {κ : KM} {T : Nat} {C : Nat → Nat} {LN : Nat → Nat → Nat} (H : Heap) (locs : List Loc) (ls : Array Slot) (k n : Nat) (hL : OkL B0 locs) (hW : LST D cs B0 κ H xa ma oa T C LN) (hT : T ≤ 25000 * j) (hC : sumN C 16 ≤ 24 * j) (hA1 : 35 * k ≤ n + 35 * j + 35000) (hA2 : n ≤ PotN LN + 714 * j + 600000) (hl : lv_has ls 9 [(4, .int (nI i)), (0, .ref b), (1, .ref xa), (2, .ref ma), (3, .ref oa)]) : W p l e room_1 s m args below meth c H locs k n Q (F0 m 23 ls []) := by
  refine lv_iload hx hb dL_law_23 (lv_at hl 0 rfl) ?_
  refine lv_aload_n hx hb dL_law_25 rfl (lv_at hl 1 rfl) ?_
  refine sc_n hx hb hL hX hbl hbB dL_law_26 ?_
  refine lv_bipush (v := 6) hx hb dL_law_27 (by decide) ?_
  refine lv_isub hx hb dL_law_29 ?_
  refine lv_icmp_gt (tgt := 763) hx hb dL_law_30 (by decide) (fun _ => ?_) (fun c9 => absurd (law_done hL30 hi hd) c9)
  refine lv_iconst (v := 1) hx hb dL_law_763 (by decide) ?_
  have hp := hW.2.2.2.2.2.2.pot
  refine W.widen (k := 601024) (n := 7293034) (by omega) (by omega) ?_
  exact kfin _ _ _ hL
set_option maxHeartbeats 4000000 in
set_option maxRecDepth 100000 in
theorem law_loop {p : Program} {l : Launch} {e : Env} {s : State} {m : MethodId} {args : Array Value} {below : List Frame} {meth : Method} {c : Code} {Q : State → Prop} {D : va_G} {cs : Nat → ClassId} {B0 b L : Nat} {xs : Nat → Int32} (hlt : l.stackTraces = false) (hx : p.tables.exec = Jvm.exec) (hb : c.code = cL_law) (hml : c.maxLocals = 9) (hown : s.vm.findClass RL = some m.cls) (hts : ∀ w ∈ wsL_law, w.before args s = true) (hN : NK D cs s) (hE : EX cs B0 s s.heap) (hX : va_X b L xs s s.heap) (hbl : b < s.heap.size) (hbB : b < B0) (hL30 : L < 2 ^ 30) {xa ma oa : Nat} (hLN : L ≤ 3072) (kfin : ∀ (H : Heap) (locs : List Loc) (ls : Array Slot), OkL B0 locs → W p l e room_1 s m args below meth c H locs 601024 7293034 Q (F0 m 764 ls [.int 1])) : ∀ (r j : Nat) {κ : KM} {T : Nat} {C : Nat → Nat} {LN : Nat → Nat → Nat} (H : Heap) (locs : List Loc) (ls : Array Slot) (k n : Nat) (hL : OkL B0 locs) (hW : LST D cs B0 κ H xa ma oa T C LN) (hT : T ≤ 25000 * j) (hC : sumN C 16 ≤ 24 * j) (hA1 : 35 * k ≤ n + 35 * j + 35000) (hA2 : n ≤ PotN LN + 714 * j + 600000) (hl : lv_has ls 9 [(4, .int (nI (6 * j))), (0, .ref b), (1, .ref xa), (2, .ref ma), (3, .ref oa)]) (hj : j ≤ 512) (hjL : 6 * j ≤ L) (hr : L < 6 * j + 6 * r + 6), W p l e room_1 s m args below meth c H locs k n Q (F0 m 23 ls []) := by
  intro r
  induction r with
  | zero =>
    intro j κ T C LN H locs ls k n hL hW hT hC hA1 hA2 hl hj hjL hr
    exact law_exit hlt hx hb hml hown hts hN hE hX hbl hbB hL30 kfin hj hjL (by omega) H locs ls k n hL hW hT hC hA1 hA2 hl
  | succ r ih =>
    intro j κ T C LN H locs ls k n hL hW hT hC hA1 hA2 hl hj hjL hr
    by_cases hm : 6 * j + 6 ≤ L
    · have kend : ∀ (κ1 : KM) (T1 : Nat) (C1 : Nat → Nat) (LN1 : Nat → Nat → Nat) (H1 : Heap) (locs1 : List Loc) (ls1 : Array Slot) (k1 n1 : Nat), OkL B0 locs1 → LST D cs B0 κ1 H1 xa ma oa T1 C1 LN1 → T1 ≤ 25000 * (j + 1) → sumN C1 16 ≤ 24 * (j + 1) → 35 * k1 ≤ n1 + 35 * (j + 1) + 35000 → n1 ≤ PotN LN1 + 714 * (j + 1) + 600000 → lv_has ls1 9 [(4, .int (nI (6 * j))), (0, .ref b), (1, .ref xa), (2, .ref ma), (3, .ref oa)] → W p l e room_1 s m args below meth c H1 locs1 k1 n1 Q (F0 m 757 ls1 []) := fun κ1 T1 C1 LN1 H1 locs1 ls1 k1 n1 g1 g2 g3 g4 g5 g6 g7 => by
        refine lv_iinc (v := nI (6 * j + 6)) (lv' := [(4, .int (nI (6 * j + 6))), (0, .ref b), (1, .ref xa), (2, .ref ma), (3, .ref oa)]) hx hb dL_law_757 g7 (k := 0) rfl (nI_add _ 6) (by decide) rfl (fun ls hl => ?_)
        refine lv_goto (tgt := 23) hx hb dL_law_760 (by decide) ?_
        exact ih (j + 1) H1 locs1 ls k1 n1 g1 g2 g3 g4 g5 g6 hl (by omega) (by omega) (by omega)
      refine lv_iload hx hb dL_law_23 (lv_at hl 0 rfl) ?_
      refine lv_aload_n hx hb dL_law_25 rfl (lv_at hl 1 rfl) ?_
      refine sc_n hx hb hL hX hbl hbB dL_law_26 ?_
      refine lv_bipush (v := 6) hx hb dL_law_27 (by decide) ?_
      refine lv_isub hx hb dL_law_29 ?_
      refine lv_icmp_gt (tgt := 763) hx hb dL_law_30 (by decide) (fun c9 => absurd c9 (law_more hL30 hm)) (fun _ => ?_)
      refine lv_aload_n hx hb dL_law_33 rfl (lv_at hl 1 rfl) ?_
      refine lv_iload hx hb dL_law_34 (lv_at hl 0 rfl) ?_
      refine sc_i (n := 6 * j) hx hb hL hX hbl hbB (by omega) (by omega) dL_law_36 ?_
      refine lv_bipush (v := 31) hx hb dL_law_37 (by decide) ?_
      refine lv_iand hx hb dL_law_39 ?_
      obtain ⟨q, hq, ej⟩ := pk_andE (xs (6 * j)) (m := 31) 5 (by decide)
      refine tp_i (nI q) ej ?_
      rcases (show q = 0 ∨ q = 1 ∨ q = 2 ∨ q = 3 ∨ q = 4 ∨ q = 5 ∨ q = 6 ∨ q = 7 ∨ q = 8 ∨ q = 9 ∨ q = 10 ∨ q = 11 ∨ q = 12 ∨ q = 13 ∨ q = 14 ∨ q = 15 ∨ q = 16 ∨ q = 17 ∨ q = 18 ∨ q = 19 ∨ 20 ≤ q by omega) with rfl | rfl | rfl | rfl | rfl | rfl | rfl | rfl | rfl | rfl | rfl | rfl | rfl | rfl | rfl | rfl | rfl | rfl | rfl | rfl | h20
      · refine lv_tableIn (tgt := 136) (off := 96) hx hb dL_law_40 (by decide) (by decide) (by decide) (by decide) ?_
        exact law_0 hlt hx hb hml hown hts hN hE hX hbl hbB hL30 (i := 6 * j) hm (by omega) kend H locs ls k n hL hW hT hC hA1 hA2 hl
      · refine lv_tableIn (tgt := 209) (off := 169) hx hb dL_law_40 (by decide) (by decide) (by decide) (by decide) ?_
        exact law_1 hlt hx hb hml hown hts hN hE hX hbl hbB hL30 (i := 6 * j) hm (by omega) kend H locs ls k n hL hW hT hC hA1 hA2 hl
      · refine lv_tableIn (tgt := 237) (off := 197) hx hb dL_law_40 (by decide) (by decide) (by decide) (by decide) ?_
        exact law_2 hlt hx hb hml hown hts hN hE hX hbl hbB hL30 (i := 6 * j) hm (by omega) kend H locs ls k n hL hW hT hC hA1 hA2 hl
      · refine lv_tableIn (tgt := 250) (off := 210) hx hb dL_law_40 (by decide) (by decide) (by decide) (by decide) ?_
        exact law_3 hlt hx hb hml hown hts hN hE hX hbl hbB hL30 (i := 6 * j) hm (by omega) kend H locs ls k n hL hW hT hC hA1 hA2 hl
      · refine lv_tableIn (tgt := 278) (off := 238) hx hb dL_law_40 (by decide) (by decide) (by decide) (by decide) ?_
        exact law_4 hlt hx hb hml hown hts hN hE hX hbl hbB hL30 (i := 6 * j) hm (by omega) kend H locs ls k n hL hW hT hC hA1 hA2 hl
      · refine lv_tableIn (tgt := 318) (off := 278) hx hb dL_law_40 (by decide) (by decide) (by decide) (by decide) ?_
        exact law_5 hlt hx hb hml hown hts hN hE hX hbl hbB hL30 (i := 6 * j) hm (by omega) kend H locs ls k n hL hW hT hC hA1 hA2 hl
      · refine lv_tableIn (tgt := 358) (off := 318) hx hb dL_law_40 (by decide) (by decide) (by decide) (by decide) ?_
        exact law_6 hlt hx hb hml hown hts hN hE hX hbl hbB hL30 (i := 6 * j) hm (by omega) kend H locs ls k n hL hW hT hC hA1 hA2 hl
      · refine lv_tableIn (tgt := 398) (off := 358) hx hb dL_law_40 (by decide) (by decide) (by decide) (by decide) ?_
        exact law_7 hlt hx hb hml hown hts hN hE hX hbl hbB hL30 (i := 6 * j) hm (by omega) kend H locs ls k n hL hW hT hC hA1 hA2 hl
      · refine lv_tableIn (tgt := 426) (off := 386) hx hb dL_law_40 (by decide) (by decide) (by decide) (by decide) ?_
        exact law_8 hlt hx hb hml hown hts hN hE hX hbl hbB hL30 (i := 6 * j) hm (by omega) kend H locs ls k n hL hW hT hC hA1 hA2 hl
      · refine lv_tableIn (tgt := 439) (off := 399) hx hb dL_law_40 (by decide) (by decide) (by decide) (by decide) ?_
        exact law_9 hlt hx hb hml hown hts hN hE hX hbl hbB hL30 (i := 6 * j) hm (by omega) kend H locs ls k n hL hW hT hC hA1 hA2 hl
      · refine lv_tableIn (tgt := 467) (off := 427) hx hb dL_law_40 (by decide) (by decide) (by decide) (by decide) ?_
        exact law_10 hlt hx hb hml hown hts hN hE hX hbl hbB hL30 (i := 6 * j) hm (by omega) kend H locs ls k n hL hW hT hC hA1 hA2 hl
      · refine lv_tableIn (tgt := 480) (off := 440) hx hb dL_law_40 (by decide) (by decide) (by decide) (by decide) ?_
        exact law_11 hlt hx hb hml hown hts hN hE hX hbl hbB hL30 (i := 6 * j) hm (by omega) kend H locs ls k n hL hW hT hC hA1 hA2 hl
      · refine lv_tableIn (tgt := 495) (off := 455) hx hb dL_law_40 (by decide) (by decide) (by decide) (by decide) ?_
        exact law_12 hlt hx hb hml hown hts hN hE hX hbl hbB hL30 (i := 6 * j) hm (by omega) kend H locs ls k n hL hW hT hC hA1 hA2 hl
      · refine lv_tableIn (tgt := 523) (off := 483) hx hb dL_law_40 (by decide) (by decide) (by decide) (by decide) ?_
        exact law_13 hlt hx hb hml hown hts hN hE hX hbl hbB hL30 (i := 6 * j) hm (by omega) kend H locs ls k n hL hW hT hC hA1 hA2 hl
      · refine lv_tableIn (tgt := 551) (off := 511) hx hb dL_law_40 (by decide) (by decide) (by decide) (by decide) ?_
        exact law_14 hlt hx hb hml hown hts hN hE hX hbl hbB hL30 (i := 6 * j) hm (by omega) kend H locs ls k n hL hW hT hC hA1 hA2 hl
      · refine lv_tableIn (tgt := 579) (off := 539) hx hb dL_law_40 (by decide) (by decide) (by decide) (by decide) ?_
        exact law_15 hlt hx hb hml hown hts hN hE hX hbl hbB hL30 (i := 6 * j) hm (by omega) kend H locs ls k n hL hW hT hC hA1 hA2 hl
      · refine lv_tableIn (tgt := 635) (off := 595) hx hb dL_law_40 (by decide) (by decide) (by decide) (by decide) ?_
        exact law_16 hlt hx hb hml hown hts hN hE hX hbl hbB hL30 (i := 6 * j) hm (by omega) kend H locs ls k n hL hW hT hC hA1 hA2 hl
      · refine lv_tableIn (tgt := 703) (off := 663) hx hb dL_law_40 (by decide) (by decide) (by decide) (by decide) ?_
        exact law_17 hlt hx hb hml hown hts hN hE hX hbl hbB hL30 (i := 6 * j) hm (by omega) kend H locs ls k n hL hW hT hC hA1 hA2 hl
      · refine lv_tableIn (tgt := 731) (off := 691) hx hb dL_law_40 (by decide) (by decide) (by decide) (by decide) ?_
        exact law_18 hlt hx hb hml hown hts hN hE hX hbl hbB hL30 (i := 6 * j) hm (by omega) kend H locs ls k n hL hW hT hC hA1 hA2 hl
      · refine lv_tableIn (tgt := 744) (off := 704) hx hb dL_law_40 (by decide) (by decide) (by decide) (by decide) ?_
        exact law_19 hlt hx hb hml hown hts hN hE hX hbl hbB hL30 (i := 6 * j) hm (by omega) kend H locs ls k n hL hW hT hC hA1 hA2 hl
      · refine lv_tableOut (tgt := 757) hx hb dL_law_40 (Or.inr (by rw [nI_toInt (by omega)]; omega)) (by decide) ?_
        exact kend _ _ _ _ _ _ _ _ _ hL hW (by omega) (by omega) (by omega) (by omega) hl
    · exact law_exit hlt hx hb hml hown hts hN hE hX hbl hbB hL30 kfin hj hjL (by omega) H locs ls k n hL hW hT hC hA1 hA2 hl
