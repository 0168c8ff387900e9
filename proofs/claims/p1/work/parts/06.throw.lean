/-- the two statics that a throw reads, outside of A -/
def ZX (A : Nat → Prop) (U : State) (H : Heap) : Prop := vx_Zq Bundle.tN "UNASSIGNED_STACK" Bundle.steD A U H ∧ vx_Zq Bundle.tN "SUPPRESSED_SENTINEL" Bundle.listD A U H
theorem ZX.at {A : Nat → Prop} {s : State} {H : Heap} {locs : List Loc} {wc : va_W} (hZ : ZX A s s.heap) (hS : va_S A s.heap H locs) (hFc : ∀ q, va_A wc H.size q → A q) {U : State} (hU : U.heap = H) (hW : s.WarmedH U.vm) : ZX (va_A wc H.size) U U.heap := by
  rw [hU]
  exact ⟨((hZ.1.kept hS.2.1).moved hW.alike).narrow hFc, ((hZ.2.kept hS.2.1).moved hW.alike).narrow hFc⟩
def PcX (D : va_G) (cs : Nat → ClassId) (sz : Nat) (ws : va_W) : State → Prop := fun U => PcW D cs sz ws U ∧ ZX (va_A ws sz) U U.heap
theorem PcX.blind {D : va_G} {cs : Nat → ClassId} {sz : Nat} {ws : va_W} {av : List Value} : FrameBlind (va_Pc av (PcX D cs sz ws)) :=
  fun _ U g mk q => ⟨q.1, ⟨q.2.1.1, q.2.1.2.1, NK.same rfl q.2.1.2.2.1, q.2.1.2.2.2⟩, ⟨vx_Zq.moved (Vm.Alike.refl U.vm) q.2.2.1, vx_Zq.moved (Vm.Alike.refl U.vm) q.2.2.2⟩⟩
abbrev QnI : Array Value → State → Outcome → State → Prop := va_Qi (fun (_ : Int32) (_ : Unit) => False) (fun _ _ => True) (fun _ => False)
abbrev QnV : Array Value → State → Outcome → State → Prop := va_Qv (fun (_ : Unit) => False) (fun _ _ => True) (fun _ => False)
/-- a method that throws E from the cells w0 -/
def KX (l : Launch) (y : MethodName) (wy : List Cond) (fr lo mc ms : Nat) (D : va_G) (cs : Nat → ClassId) (sz : Nat) (av : List Value) (w0 : va_W) (Qn : Array Value → State → Outcome → State → Prop) (E : String) : Prop :=
  vx_Met l y wy ({ frames := fr, cells := mc, slots := ms, locals := lo }) (va_Pc av (PcX D cs sz w0)) Qn (vx_X (fun _ : Unit => True) (fun E' _ _ => E' = E) (va_A w0 sz)) mc ms (va_A w0 sz)
theorem KX.of {l : Launch} {y : MethodName} {wy wy' : List Cond} {fr lo mc ms : Nat} {D : va_G} {cs : Nat → ClassId} {sz : Nat} {av : List Value} {w0 : va_W} {Qn : Array Value → State → Outcome → State → Prop} {E : String} (cc : ByteArray) (maxL : Nat) (ret : Option FieldType) (hy : plainName y.cls = true) (hw : wy = Cond.code y cc maxL ret :: wy') (hn : (lg_sl av).length ≤ maxL)
    (body : ∀ (p : Program) (e : Env) (s : State) (m : MethodId) (below : List Frame) (meth : Method) (c : Code) (A : Nat → Prop) (ls : Array Slot), p.tables.exec = Jvm.exec → c.code = cc → meth.sig.returnType = ret → c.maxLocals = maxL → s.vm.findClass y.cls = some m.cls → (∀ w ∈ wy, w.before av.toArray s = true) → meth.locks = false → (∀ x ∈ c.exceptionTable.toList, False) → va_P D vwCl w0 s.heap → NK D cs s → va_D A w0 → (∀ q : Nat, s.heap.size ≤ q → A q) → va_S A s.heap s.heap [] → lv_has ls maxL (lv_args 0 av) → ZX A s s.heap →
      W p l e ({ frames := fr, cells := mc, slots := ms, locals := lo } : Room) s m av.toArray below meth c s.heap [] 0 0 (vx_MQ below Qn (vx_X (fun _ : Unit => True) (fun E' _ _ => E' = E) A) av.toArray s mc ms A) (F0 m 0 ls [])) : KX l y wy fr lo mc ms D cs sz av w0 Qn E := by
  refine vx_ofW (cc := cc) (maxL := maxL) (ret := ret) hy hw ?_
  intro p e s m args below meth c s₁ B hml hnx hv
  obtain ⟨rfl, ⟨hsz, hP, hN, hD0⟩, hZ⟩ := hv
  have hts := atoms_spec (ws := wy) B.pre
  have hown : s.vm.findClass y.cls = some m.cls := findClass_of_methodNamed B.named
  subst hsz
  have hD := hD0.self (sz := s.heap.size)
  have hl := lv_entry av (n := maxL) hn
  rw [lg_entry_eq]
  generalize (lg_sl av ++ List.replicate (maxL - (lg_sl av).length) Slot.unset).toArray = ls at hl ⊢
  exact body p e s m below meth c (va_A w0 s.heap.size) ls B.exec B.bytes B.returns hml hown hts B.notSynchronized hnx hP hN hD (fun q h => Or.inr h) va_S.rf hl hZ
section TX
variable {p : Program} {l : Launch} {e : Env} {R : Room} {s : State} {m : MethodId} {args : Array Value} {below : List Frame} {meth : Method} {c : Code} {H : Heap} {locs : List Loc} {cells slots mc ms : Nat} {Q : State → Prop} {Qn Qm : Array Value → State → Outcome → State → Prop}
variable {cc bytes : ByteArray} {pc : Nat} {ls : Array Slot} {rest : List Value} {D : va_G} {cs : Nat → ClassId} {A : Nat → Prop} {ws wc wr : va_W} {H0 : Heap} {y : MethodName} {wy Ts : List Cond} {fr lo mc1 ms1 nL maxL index n : Nat} {own E : String} {ret : Option FieldType} {As st : List Value} {isC isR : List Nat}
theorem tx_F {t : State} (hS : va_S A s.heap H locs) (h1 : H.size ≤ t.heap.size) (h2 : ∀ q : Nat, q < H.size → t.heap[q]? = H[q]?) : va_F A s t :=
  ⟨Nat.le_trans hS.1 h1, fun q hq hA => (h2 q (Nat.lt_of_lt_of_le hq hS.1)).trans (hS.2.1 q hq hA)⟩
/-- new, dup, ldc, invokespecial, athrow -/
theorem tx_go (k : Nat) {text : String} {ik is ic sa : Nat} {hl' : List (Nat × Value)} (hx : p.tables.exec = Jvm.exec) (hb : c.code = cc) (hlt : l.stackTraces = false) (hown : s.vm.findClass own = some m.cls) (hN : NK D cs s) (hcls : Bundle.fit E = true)
    (hk : (Cond.classLink own ik E).before args s = true) (hini : (Cond.initialized E).before args s = true) (hstr : vk_R own is text sa s) (hE : nE[k]? = some E)
    (hg1 : ∀ w ∈ (vx_atS own ic E ["java/lang/RuntimeException", "java/lang/Exception"]).filter goodWord, w.before args s = true) (hg2 : ∀ w ∈ (vx_atS own ic E ["java/lang/RuntimeException", "java/lang/Exception"]).filter (fun w => !goodWord w), w ∈ [Cond.castable E E]) (hgood : ∀ w ∈ Cond.classLink own ik E :: Cond.initialized E :: vx_atS own ic E ["java/lang/RuntimeException", "java/lang/Exception"], vx_ot w = true)
    (hZ : ZX A s s.heap) (hS : va_S A s.heap H locs) (hl : lv_has ls nL hl') (hml : c.maxLocals = nL)
    (d0 : decode cc pc = .ok (.new ik, 3)) (d3 : decode cc (pc + 3) = .ok (.dup, 1)) (d4 : decode cc (pc + 4) = .ok (.ldc is, 2)) (d6 : decode cc (pc + 6) = .ok (.invokespecial ic, 3)) (d9 : decode cc (pc + 9) = .ok (.athrow, 1)) (hnx : ∀ x ∈ c.exceptionTable.toList, False)
    (hRf : 5 < R.frames) (hRl : (rest.map fun v => v.category).sum + 82 ≤ R.locals) (hRc : cells + 1 ≤ R.cells) (hRs : slots + 6 ≤ R.slots) (hlocks : meth.locks = false) (hc : cells + 1 ≤ mc) (hs : slots + 6 ≤ ms) :
    W p l e R s m args below meth c H locs cells slots (vx_MQ below Qn (vx_X (fun _ : Unit => True) (fun E' _ _ => E' = E) A) args s mc ms A) (F0 m pc ls rest) :=
  vx_throwS (A := A) (names := ["java/lang/RuntimeException", "java/lang/Exception"]) hx hb hlt hown hcls (by decide +kernel) hk hini hstr (vx_hat hg1 hg2 (vx_c (va_Nw.use rfl (hN.2.2.2.2.2.2.2.1 E (List.mem_of_getElem? hE))) vx_n)) hgood hZ.1 hZ.2 hS (hl.1.trans hml.symm) d0 d3 d4 d6 d9 (fun x h => (hnx x h).elim) hRf hRl hRc hRs hlocks
    (fun t _ h1 h2 => ⟨(), trivial, rfl, tx_F hS h1 h2⟩) hS.2.2 hc hs
/-- a call that throws, in a method that throws the same -/
theorem xp_i {b : Nat} {C : String} (S : CallFix p m c cc nL s args Ts own) (hM : ∀ sz, KX l y wy fr lo mc1 ms1 D cs sz (.ref b :: As) wc QnI E) (cw : CallW R s args own C index y bytes maxL ret wy ({ frames := fr, cells := mc1, slots := ms1, locals := lo }) mc1 ms1 n) (hN : NK D cs s) (hP : va_P D vwCl ws H) (hD : va_D A ws) (hS : va_S A s.heap H locs) (hA : ∀ q, s.heap.size ≤ q → A q) (hZ : ZX A s s.heap) (isC : List Nat) (hC : isC.map (fun i => ws[i]?) = wc.map some) (hnC : va_nd isC = true) {ci : Nat} {q0 : Nat} {T : u_T} {N : Nat} {fs : List Value} (hci : vwCl[ci]? = some (C, T, N)) (hrec : wc[q0]? = some (b, .inr (ci, fs))) (hst : st = As.reverse ++ .ref b :: rest) (hn : As.length = n) (hsz : ls.size = nL) (hroom : (rest.map fun v => v.category).sum ≤ 8) (hdg : decode cc pc = .ok (.invokevirtual index, 3)) (hc1 : cells + mc1 ≤ R.cells) (hs1 : slots + ms1 ≤ R.slots) (hnx : ∀ x ∈ c.exceptionTable.toList, False) (hlocks : meth.locks = false) (hc2 : cells + mc1 ≤ mc) (hs2 : slots + ms1 ≤ ms) :
    W p l e R s m args below meth c H locs cells slots (vx_MQ below Qm (vx_X (fun _ : Unit => True) (fun E' _ _ => E' = E) A) args s mc ms A) (F0 m pc ls st) := by
  have hFc := va_free hD hS hA isC hC
  refine vx_calli (vx_runV (As := As) (rest := rest) S (hM H.size) cw ⟨PcX.blind, va_recv hN.1 (cl_P hP hC) hci hrec, fun U hU hW => ⟨rfl, ⟨by rw [hU], by rw [hU]; exact cl_P hP hC, NK.warm hW hN, (hD.sub isC hnC hC).weaken (fun _ _ _ _ => trivial)⟩, ZX.at hZ hS (va_free hD hS hA isC hC) hU hW⟩⟩ rfl hn hsz hst (lv_room hroom) hdg ⟨hc1, hs1⟩) hS (fun _ _ h => h.elim) hFc (fun q _ h => hFc q h) (fun E9 ce q9 u t H1 locs1 ht hvm hp hB hz1 hk1 hS1 hce hcv hcl => ?_) (fun r u t H1 locs1 ht hvm hw hB hz1 hk1 hS1 => hw.elim)
  subst hB
  exact vx_out (fun x h => (hnx x h).elim) hlocks hce hcv hcl (fun t' ht' hv' => ⟨(), trivial, rfl, tx_F hS1 (by rw [ht']; exact Nat.le_refl _) (fun q hq => by rw [ht'])⟩) hS1.2.2 hc2 hs2
/-- a call that throws, caught -/
theorem xc_i {b : Nat} {C : String} (S : CallFix p m c cc nL s args Ts own) (hM : ∀ sz, KX l y wy fr lo mc1 ms1 D cs sz (.ref b :: As) wc QnI E) (cw : CallW R s args own C index y bytes maxL ret wy ({ frames := fr, cells := mc1, slots := ms1, locals := lo }) mc1 ms1 n) (hN : NK D cs s) (hP : va_P D vwCl ws H) (hD : va_D A ws) (hS : va_S A s.heap H locs) (hA : ∀ q, s.heap.size ≤ q → A q) (hZ : ZX A s s.heap) (isC : List Nat) (hC : isC.map (fun i => ws[i]?) = wc.map some) (hnC : va_nd isC = true) {ci : Nat} {q0 : Nat} {T : u_T} {N : Nat} {fs : List Value} (hci : vwCl[ci]? = some (C, T, N)) (hrec : wc[q0]? = some (b, .inr (ci, fs))) (hst : st = As.reverse ++ .ref b :: rest) (hn : As.length = n) (hsz : ls.size = nL) (hroom : (rest.map fun v => v.category).sum ≤ 8) (hdg : decode cc pc = .ok (.invokevirtual index, 3)) (hc1 : cells + mc1 ≤ R.cells) (hs1 : slots + ms1 ≤ R.slots) (isR : List Nat) (hR : isR.map (fun i => ws[i]?) = wr.map some) (hnR : va_nd isR = true) (hdis : ∀ i ∈ isR, i ∉ isC) (pre : List ExceptionTableEntry) (x : ExceptionTableEntry) (suf : List ExceptionTableEntry) (hsplit : c.exceptionTable.toList = pre ++ x :: suf)
    (hpass : ∀ z ∈ pre, covers z pc = false ∨ (z.catchType ≠ 0 ∧ ∃ nm : String, (Cond.classLink own z.catchType nm).before args s = true ∧ va_Nc E nm s)) (hx9 : covers x pc = true) (h0 : x.catchType ≠ 0) (hlink : (Cond.classLink own x.catchType E).before args s = true) (kE : Nat) (hE : nE[kE]? = some E)
    (kk : ∀ (q9 : Nat) (H1 : Heap) (locs1 : List Loc), va_P D vwCl wr H1 → va_D A wr → va_S A s.heap H1 locs1 → W p l e R s m args below meth c H1 locs1 (cells + mc1) (slots + ms1) Q (F0 m x.handlerPc ls [.ref q9])) :
    W p l e R s m args below meth c H locs cells slots Q (F0 m pc ls st) := by
  have hFc := va_free hD hS hA isC hC
  refine vx_calli (vx_runV (As := As) (rest := rest) S (hM H.size) cw ⟨PcX.blind, va_recv hN.1 (cl_P hP hC) hci hrec, fun U hU hW => ⟨rfl, ⟨by rw [hU], by rw [hU]; exact cl_P hP hC, NK.warm hW hN, (hD.sub isC hnC hC).weaken (fun _ _ _ _ => trivial)⟩, ZX.at hZ hS (va_free hD hS hA isC hC) hU hW⟩⟩ rfl hn hsz hst (lv_room hroom) hdg ⟨hc1, hs1⟩) hS (fun _ _ h => h.elim) hFc (fun q _ h => hFc q h) (fun E9 ce q9 u t H1 locs1 ht hvm hp hB hz1 hk1 hS1 hce hcv hcl => ?_) (fun r u t H1 locs1 ht hvm hw hB hz1 hk1 hS1 => hw.elim)
  subst hB
  obtain ⟨hP2, hD2⟩ := va_join (w1 := []) hP hD isC isR hC hR hnR hdis hk1 hFc (fun k q h => by simp at h) ⟨fun i j p q h => by simp at h, fun k q h => by simp at h⟩
  rw [List.append_nil] at hP2 hD2
  exact vx_catch S.2.2.2.1 pre x suf hsplit hpass hx9 h0 hlink (va_Nw.use rfl (hN.2.2.2.2.2.2.2.1 _ (List.mem_of_getElem? hE))) hce hcv hcl (kk q9 H1 locs1 hP2 hD2 hS1)
/-- a call that throws, in a method that throws the same -/
theorem xp_v {b : Nat} {C : String} (S : CallFix p m c cc nL s args Ts own) (hM : ∀ sz, KX l y wy fr lo mc1 ms1 D cs sz (.ref b :: As) wc QnV E) (cw : CallW R s args own C index y bytes maxL ret wy ({ frames := fr, cells := mc1, slots := ms1, locals := lo }) mc1 ms1 n) (hN : NK D cs s) (hP : va_P D vwCl ws H) (hD : va_D A ws) (hS : va_S A s.heap H locs) (hA : ∀ q, s.heap.size ≤ q → A q) (hZ : ZX A s s.heap) (isC : List Nat) (hC : isC.map (fun i => ws[i]?) = wc.map some) (hnC : va_nd isC = true) {ci : Nat} {q0 : Nat} {T : u_T} {N : Nat} {fs : List Value} (hci : vwCl[ci]? = some (C, T, N)) (hrec : wc[q0]? = some (b, .inr (ci, fs))) (hst : st = As.reverse ++ .ref b :: rest) (hn : As.length = n) (hsz : ls.size = nL) (hroom : (rest.map fun v => v.category).sum ≤ 8) (hdg : decode cc pc = .ok (.invokevirtual index, 3)) (hc1 : cells + mc1 ≤ R.cells) (hs1 : slots + ms1 ≤ R.slots) (hnx : ∀ x ∈ c.exceptionTable.toList, False) (hlocks : meth.locks = false) (hc2 : cells + mc1 ≤ mc) (hs2 : slots + ms1 ≤ ms) :
    W p l e R s m args below meth c H locs cells slots (vx_MQ below Qm (vx_X (fun _ : Unit => True) (fun E' _ _ => E' = E) A) args s mc ms A) (F0 m pc ls st) := by
  have hFc := va_free hD hS hA isC hC
  refine vx_callv (vx_runV (As := As) (rest := rest) S (hM H.size) cw ⟨PcX.blind, va_recv hN.1 (cl_P hP hC) hci hrec, fun U hU hW => ⟨rfl, ⟨by rw [hU], by rw [hU]; exact cl_P hP hC, NK.warm hW hN, (hD.sub isC hnC hC).weaken (fun _ _ _ _ => trivial)⟩, ZX.at hZ hS (va_free hD hS hA isC hC) hU hW⟩⟩ rfl hn hsz hst (lv_room hroom) hdg ⟨hc1, hs1⟩) hS (fun _ _ h => h.elim) hFc (fun q _ h => hFc q h) (fun E9 ce q9 u t H1 locs1 ht hvm hp hB hz1 hk1 hS1 hce hcv hcl => ?_) (fun u t H1 locs1 ht hvm hw hB hz1 hk1 hS1 => hw.elim)
  subst hB
  exact vx_out (fun x h => (hnx x h).elim) hlocks hce hcv hcl (fun t' ht' hv' => ⟨(), trivial, rfl, tx_F hS1 (by rw [ht']; exact Nat.le_refl _) (fun q hq => by rw [ht'])⟩) hS1.2.2 hc2 hs2
/-- a call that throws, caught -/
theorem xc_v {b : Nat} {C : String} (S : CallFix p m c cc nL s args Ts own) (hM : ∀ sz, KX l y wy fr lo mc1 ms1 D cs sz (.ref b :: As) wc QnV E) (cw : CallW R s args own C index y bytes maxL ret wy ({ frames := fr, cells := mc1, slots := ms1, locals := lo }) mc1 ms1 n) (hN : NK D cs s) (hP : va_P D vwCl ws H) (hD : va_D A ws) (hS : va_S A s.heap H locs) (hA : ∀ q, s.heap.size ≤ q → A q) (hZ : ZX A s s.heap) (isC : List Nat) (hC : isC.map (fun i => ws[i]?) = wc.map some) (hnC : va_nd isC = true) {ci : Nat} {q0 : Nat} {T : u_T} {N : Nat} {fs : List Value} (hci : vwCl[ci]? = some (C, T, N)) (hrec : wc[q0]? = some (b, .inr (ci, fs))) (hst : st = As.reverse ++ .ref b :: rest) (hn : As.length = n) (hsz : ls.size = nL) (hroom : (rest.map fun v => v.category).sum ≤ 8) (hdg : decode cc pc = .ok (.invokevirtual index, 3)) (hc1 : cells + mc1 ≤ R.cells) (hs1 : slots + ms1 ≤ R.slots) (isR : List Nat) (hR : isR.map (fun i => ws[i]?) = wr.map some) (hnR : va_nd isR = true) (hdis : ∀ i ∈ isR, i ∉ isC) (pre : List ExceptionTableEntry) (x : ExceptionTableEntry) (suf : List ExceptionTableEntry) (hsplit : c.exceptionTable.toList = pre ++ x :: suf)
    (hpass : ∀ z ∈ pre, covers z pc = false ∨ (z.catchType ≠ 0 ∧ ∃ nm : String, (Cond.classLink own z.catchType nm).before args s = true ∧ va_Nc E nm s)) (hx9 : covers x pc = true) (h0 : x.catchType ≠ 0) (hlink : (Cond.classLink own x.catchType E).before args s = true) (kE : Nat) (hE : nE[kE]? = some E)
    (kk : ∀ (q9 : Nat) (H1 : Heap) (locs1 : List Loc), va_P D vwCl wr H1 → va_D A wr → va_S A s.heap H1 locs1 → W p l e R s m args below meth c H1 locs1 (cells + mc1) (slots + ms1) Q (F0 m x.handlerPc ls [.ref q9])) :
    W p l e R s m args below meth c H locs cells slots Q (F0 m pc ls st) := by
  have hFc := va_free hD hS hA isC hC
  refine vx_callv (vx_runV (As := As) (rest := rest) S (hM H.size) cw ⟨PcX.blind, va_recv hN.1 (cl_P hP hC) hci hrec, fun U hU hW => ⟨rfl, ⟨by rw [hU], by rw [hU]; exact cl_P hP hC, NK.warm hW hN, (hD.sub isC hnC hC).weaken (fun _ _ _ _ => trivial)⟩, ZX.at hZ hS (va_free hD hS hA isC hC) hU hW⟩⟩ rfl hn hsz hst (lv_room hroom) hdg ⟨hc1, hs1⟩) hS (fun _ _ h => h.elim) hFc (fun q _ h => hFc q h) (fun E9 ce q9 u t H1 locs1 ht hvm hp hB hz1 hk1 hS1 hce hcv hcl => ?_) (fun u t H1 locs1 ht hvm hw hB hz1 hk1 hS1 => hw.elim)
  subst hB
  obtain ⟨hP2, hD2⟩ := va_join (w1 := []) hP hD isC isR hC hR hnR hdis hk1 hFc (fun k q h => by simp at h) ⟨fun i j p q h => by simp at h, fun k q h => by simp at h⟩
  rw [List.append_nil] at hP2 hD2
  exact vx_catch S.2.2.2.1 pre x suf hsplit hpass hx9 h0 hlink (va_Nw.use rfl (hN.2.2.2.2.2.2.2.1 _ (List.mem_of_getElem? hE))) hce hcv hcl (kk q9 H1 locs1 hP2 hD2 hS1)
end TX
/-- a method with handlers that returns an int, from a world of which a throw may come -/
def KH (l : Launch) (y : MethodName) (wy : List Cond) (fr lo mc ms : Nat) (D : va_G) (cs : Nat → ClassId) (sz : Nat) (av : List Value) (w0 : va_W) (w1 : (Nat → Nat) → va_W) (v : Int32) : Prop :=
  Met l y wy ({ frames := fr, cells := mc, slots := ms, locals := lo }) (va_Pc av (PcX D cs sz w0)) (va_Qi (fun (r : Int32) (_ : Nat → Nat) => r = v) (QcW D (va_A w0 sz) w1) (va_A w0 sz)) mc ms (va_A w0 sz)
theorem KH.of {l : Launch} {y : MethodName} {wy wy' : List Cond} {fr lo mc ms : Nat} {D : va_G} {cs : Nat → ClassId} {sz : Nat} {av : List Value} {w0 : va_W} {w1 : (Nat → Nat) → va_W} {v : Int32} {hh : List (Nat × Nat × Nat × Nat)} (cc : ByteArray) (maxL : Nat) (ret : Option FieldType) (hy : plainName y.cls = true) (hw : wy = Cond.codeWith y cc maxL ret hh :: wy') (hn : (lg_sl av).length ≤ maxL)
    (body : ∀ (p : Program) (e : Env) (s : State) (m : MethodId) (below : List Frame) (meth : Method) (c : Code) (A : Nat → Prop) (ls : Array Slot), p.tables.exec = Jvm.exec → c.code = cc → meth.sig.returnType = ret → c.maxLocals = maxL → s.vm.findClass y.cls = some m.cls → (∀ w ∈ wy, w.before av.toArray s = true) → meth.locks = false → c.exceptionTable.toList = tableOf hh → va_P D vwCl w0 s.heap → NK D cs s → va_D A w0 → (∀ q : Nat, s.heap.size ≤ q → A q) → va_S A s.heap s.heap [] → lv_has ls maxL (lv_args 0 av) → ZX A s s.heap →
      W p l e ({ frames := fr, cells := mc, slots := ms, locals := lo } : Room) s m av.toArray below meth c s.heap [] 0 0 (MQ below (va_Qi (fun (r : Int32) (_ : Nat → Nat) => r = v) (QcW D A w1) A) av.toArray s mc ms A) (F0 m 0 ls [])) : KH l y wy fr lo mc ms D cs sz av w0 w1 v := by
  refine va_MetW (cc := cc) (maxL := maxL) (ret := ret) (hh := hh) hy hw ?_
  intro p e s m args below meth c s₁ B hml hv
  obtain ⟨rfl, ⟨hsz, hP, hN, hD0⟩, hZ⟩ := hv
  have hts := atoms_spec (ws := wy) B.pre
  have hown : s.vm.findClass y.cls = some m.cls := findClass_of_methodNamed B.named
  have htab := vx_table (x := y) B (hts _ (by rw [hw]; exact List.mem_cons_self))
  subst hsz
  have hD := hD0.self (sz := s.heap.size)
  have hl := lv_entry av (n := maxL) hn
  rw [lg_entry_eq]
  generalize (lg_sl av ++ List.replicate (maxL - (lg_sl av).length) Slot.unset).toArray = ls at hl ⊢
  exact body p e s m below meth c (va_A w0 s.heap.size) ls B.exec B.bytes B.returns hml hown hts B.notSynchronized htab hP hN hD (fun q h => Or.inr h) va_S.rf hl hZ
section CH
variable {p : Program} {l : Launch} {e : Env} {R : Room} {s : State} {m : MethodId} {args : Array Value} {below : List Frame} {meth : Method} {c : Code} {H : Heap} {locs : List Loc} {cells slots : Nat} {Q : State → Prop}
variable {cc bytes : ByteArray} {pc : Nat} {ls : Array Slot} {rest : List Value} {D : va_G} {cs : Nat → ClassId} {A : Nat → Prop} {ws wc wr : va_W} {w1 : (Nat → Nat) → va_W} {y : MethodName} {wy Ts : List Cond} {fr lo mc ms nL maxL index n : Nat} {own : String} {ret : Option FieldType} {As st : List Value} {isC isR : List Nat}
/-- the law calls one of its helpers -/
theorem ch_i {v : Int32} {hh : List (Nat × Nat × Nat × Nat)} (S : CallFix p m c cc nL s args Ts own) (hM : ∀ sz, KH l y wy fr lo mc ms D cs sz As wc w1 v) (cw : vx_CSW R s args own index y bytes maxL ret hh wy ({ frames := fr, cells := mc, slots := ms, locals := lo }) mc ms n) (hN : NK D cs s) (hP : va_P D vwCl ws H) (hD : va_D A ws) (hS : va_S A s.heap H locs) (hA : ∀ q, s.heap.size ≤ q → A q) (hZ : ZX A s s.heap) (isC isR : List Nat) (hC : isC.map (fun i => ws[i]?) = wc.map some) (hR : isR.map (fun i => ws[i]?) = wr.map some) (hnC : va_nd isC = true) (hnR : va_nd isR = true) (hdis : ∀ i ∈ isR, i ∉ isC) (hst : st = As.reverse ++ rest) (hn : As.length = n) (hsz : ls.size = nL) (hroom : (rest.map fun v => v.category).sum ≤ 8) (hdg : decode cc pc = .ok (.invokestatic index, 3)) (hc1 : cells + mc ≤ R.cells) (hs1 : slots + ms ≤ R.slots)
    (kk : ∀ (u : Nat → Nat) (H1 : Heap) (locs1 : List Loc), va_P D vwCl (wr ++ w1 u) H1 → va_D A (wr ++ w1 u) → va_S A s.heap H1 locs1 → W p l e R s m args below meth c H1 locs1 (cells + mc) (slots + ms) Q (F0 m (pc + 3) ls (.int v :: rest))) : W p l e R s m args below meth c H locs cells slots Q (F0 m pc ls st) := by
  have hFc := va_free hD hS hA isC hC
  refine va_calli (vx_runSW (As := As) (rest := rest) S (hM H.size) cw ⟨PcX.blind, fun U hU hW => ⟨rfl, ⟨by rw [hU], by rw [hU]; exact cl_P hP hC, NK.warm hW hN, (hD.sub isC hnC hC).weaken (fun _ _ _ _ => trivial)⟩, ZX.at hZ hS hFc hU hW⟩⟩ rfl hn hsz hst (lv_room hroom) hdg ⟨hc1, hs1⟩) hS (fun q _ h => hFc q h) hFc (fun r u t H1 locs1 ht hvm hw hB hz1 hk1 hS1 => ?_)
  subst hw
  obtain ⟨hP1, hD1⟩ := hB
  rw [ht] at hP1
  obtain ⟨hP2, hD2⟩ := va_join hP hD isC isR hC hR hnR hdis hk1 hFc hP1 hD1
  exact kk u H1 locs1 hP2 hD2 hS1
end CH
