def bPl : Nat → Value := fun j => .int (([112, 108, 97, 121, 101, 114, 115] : List Int32).getD j 0)
/-- the text "players" of the model's file, and the two statics that String reads, outside of A -/
def ZS (cs : Nat → ClassId) (A : Nat → Prop) (U : State) (H : Heap) : Prop := va_O "java/lang/String" (cs 119) A U H ∧ va_OF "java/lang/String" "coder" "B" (.int 0) (cs 119) A U H ∧ va_OF "java/lang/String" "value" "[B" (.ref (cs 200)) (cs 119) A U H ∧ va_T .byte (cs 200) 7 bPl A U H ∧ va_Z "java/lang/String" "COMPACT_STRINGS" "Z" (.int 1) A U H ∧ va_Zq "jdk/internal/util/Preconditions" "SIOOBE_FORMATTER" "Ljava/util/function/BiFunction;" A U H
theorem ZS.moved {cs : Nat → ClassId} {A : Nat → Prop} {u U : State} {H : Heap} (hvm : u.vm.Alike U.vm) (h : ZS cs A u H) : ZS cs A U H := ⟨va_O.moved hvm h.1, va_OF.moved hvm h.2.1, va_OF.moved hvm h.2.2.1, va_T.moved hvm h.2.2.2.1, va_Z.moved hvm h.2.2.2.2.1, va_Zq.moved hvm h.2.2.2.2.2⟩
theorem ZS.kept {cs : Nat → ClassId} {A : Nat → Prop} {U : State} {H H1 : Heap} (h : ZS cs A U H) (hq : ∀ a : Nat, a < H.size → ¬ A a → H1[a]? = H[a]?) : ZS cs A U H1 := ⟨h.1.kept hq, h.2.1.kept hq, h.2.2.1.kept hq, h.2.2.2.1.kept hq, h.2.2.2.2.1.kept hq, h.2.2.2.2.2.kept hq⟩
theorem ZS.narrow {cs : Nat → ClassId} {A B : Nat → Prop} {U : State} {H : Heap} (h : ZS cs A U H) (hAB : ∀ q, B q → A q) : ZS cs B U H := ⟨h.1.narrow hAB, h.2.1.narrow hAB, h.2.2.1.narrow hAB, h.2.2.2.1.narrow hAB, h.2.2.2.2.1.narrow hAB, h.2.2.2.2.2.narrow hAB⟩
theorem ZS.at {cs : Nat → ClassId} {A : Nat → Prop} {s : State} {H : Heap} {locs : List Loc} {wc : va_W} (hZ : ZS cs A s s.heap) (hS : va_S A s.heap H locs) (hFc : ∀ q, va_A wc H.size q → A q) {U : State} (hU : U.heap = H) (hW : s.WarmedH U.vm) : ZS cs (va_A wc H.size) U U.heap := by
  rw [hU]
  exact ((hZ.kept hS.2.1).moved hW.alike).narrow hFc
def PcS (D : va_G) (cs : Nat → ClassId) (sz : Nat) (ws : va_W) : State → Prop := fun U => PcW D cs sz ws U ∧ ZS cs (va_A ws sz) U U.heap
theorem PcS.blind {D : va_G} {cs : Nat → ClassId} {sz : Nat} {ws : va_W} {av : List Value} : FrameBlind (va_Pc av (PcS D cs sz ws)) :=
  fun _ U g mk q => ⟨q.1, ⟨q.2.1.1, q.2.1.2.1, NK.same rfl q.2.1.2.2.1, q.2.1.2.2.2⟩, ZS.moved (Vm.Alike.refl U.vm) q.2.2⟩
def KSV (l : Launch) (y : MethodName) (wy : List Cond) (fr lo mc ms : Nat) (D : va_G) (cs : Nat → ClassId) (sz : Nat) (av : List Value) (w0 : va_W) (w1 : (Nat → Nat) → va_W) : Prop :=
  Met l y wy ({ frames := fr, cells := mc, slots := ms, locals := lo }) (va_Pc av (PcS D cs sz w0)) (va_Qv (fun _ : Nat → Nat => True) (QcW D (va_A w0 sz) w1) (va_A w0 sz)) mc ms (va_A w0 sz)
theorem KSV.of {l : Launch} {y : MethodName} {wy wy' : List Cond} {fr lo mc ms : Nat} {D : va_G} {cs : Nat → ClassId} {sz : Nat} {av : List Value} {w0 : va_W} {w1 : (Nat → Nat) → va_W} (cc : ByteArray) (maxL : Nat) (ret : Option FieldType) (hy : plainName y.cls = true) (hw : wy = Cond.code y cc maxL ret :: wy') (hn : (lg_sl av).length ≤ maxL)
    (body : ∀ (p : Program) (e : Env) (s : State) (m : MethodId) (below : List Frame) (meth : Method) (c : Code) (A : Nat → Prop) (ls : Array Slot), p.tables.exec = Jvm.exec → c.code = cc → meth.sig.returnType = ret → c.maxLocals = maxL → s.vm.findClass y.cls = some m.cls → (∀ w ∈ wy, w.before av.toArray s = true) → meth.locks = false → meth.name = y.name → va_P D vwCl w0 s.heap → NK D cs s → va_D A w0 → (∀ q : Nat, s.heap.size ≤ q → A q) → va_S A s.heap s.heap [] → lv_has ls maxL (lv_args 0 av) → ZS cs A s s.heap →
      W p l e ({ frames := fr, cells := mc, slots := ms, locals := lo } : Room) s m av.toArray below meth c s.heap [] 0 0 (MQ below (va_Qv (fun _ : Nat → Nat => True) (QcW D A w1) A) av.toArray s mc ms A) (F0 m 0 ls [])) : KSV l y wy fr lo mc ms D cs sz av w0 w1 := by
  refine Met.ofW (cc := cc) (maxL := maxL) (ret := ret) hy hw ?_
  intro p e s m args below meth c s₁ B hml hv
  obtain ⟨rfl, ⟨hsz, hP, hN, hD0⟩, hZ⟩ := hv
  have hts := atoms_spec (ws := wy) B.pre
  have hown : s.vm.findClass y.cls = some m.cls := findClass_of_methodNamed B.named
  have hin : meth.name = y.name := (name_of_methodNamed B.named B.method).1
  subst hsz
  have hD := hD0.self (sz := s.heap.size)
  have hl := lv_entry av (n := maxL) hn
  rw [lg_entry_eq]
  generalize (lg_sl av ++ List.replicate (maxL - (lg_sl av).length) Slot.unset).toArray = ls at hl ⊢
  exact body p e s m below meth c (va_A w0 s.heap.size) ls B.exec B.bytes B.returns hml hown hts B.notSynchronized hin hP hN hD (fun q h => Or.inr h) va_S.rf hl hZ
def KSI (l : Launch) (y : MethodName) (wy : List Cond) (fr lo mc ms : Nat) (D : va_G) (cs : Nat → ClassId) (sz : Nat) (av : List Value) (w0 : va_W) (w1 : (Nat → Nat) → va_W) (v : Int32) : Prop :=
  Met l y wy ({ frames := fr, cells := mc, slots := ms, locals := lo }) (va_Pc av (PcS D cs sz w0)) (va_Qi (fun (r : Int32) (_ : Nat → Nat) => r = v) (QcW D (va_A w0 sz) w1) (va_A w0 sz)) mc ms (va_A w0 sz)
theorem KSI.of {l : Launch} {y : MethodName} {wy wy' : List Cond} {fr lo mc ms : Nat} {D : va_G} {cs : Nat → ClassId} {sz : Nat} {av : List Value} {w0 : va_W} {w1 : (Nat → Nat) → va_W} {v : Int32} (cc : ByteArray) (maxL : Nat) (ret : Option FieldType) (hy : plainName y.cls = true) (hw : wy = Cond.code y cc maxL ret :: wy') (hn : (lg_sl av).length ≤ maxL)
    (body : ∀ (p : Program) (e : Env) (s : State) (m : MethodId) (below : List Frame) (meth : Method) (c : Code) (A : Nat → Prop) (ls : Array Slot), p.tables.exec = Jvm.exec → c.code = cc → meth.sig.returnType = ret → c.maxLocals = maxL → s.vm.findClass y.cls = some m.cls → (∀ w ∈ wy, w.before av.toArray s = true) → meth.locks = false → meth.name = y.name → va_P D vwCl w0 s.heap → NK D cs s → va_D A w0 → (∀ q : Nat, s.heap.size ≤ q → A q) → va_S A s.heap s.heap [] → lv_has ls maxL (lv_args 0 av) → ZS cs A s s.heap →
      W p l e ({ frames := fr, cells := mc, slots := ms, locals := lo } : Room) s m av.toArray below meth c s.heap [] 0 0 (MQ below (va_Qi (fun (r : Int32) (_ : Nat → Nat) => r = v) (QcW D A w1) A) av.toArray s mc ms A) (F0 m 0 ls [])) : KSI l y wy fr lo mc ms D cs sz av w0 w1 v := by
  refine Met.ofW (cc := cc) (maxL := maxL) (ret := ret) hy hw ?_
  intro p e s m args below meth c s₁ B hml hv
  obtain ⟨rfl, ⟨hsz, hP, hN, hD0⟩, hZ⟩ := hv
  have hts := atoms_spec (ws := wy) B.pre
  have hown : s.vm.findClass y.cls = some m.cls := findClass_of_methodNamed B.named
  have hin : meth.name = y.name := (name_of_methodNamed B.named B.method).1
  subst hsz
  have hD := hD0.self (sz := s.heap.size)
  have hl := lv_entry av (n := maxL) hn
  rw [lg_entry_eq]
  generalize (lg_sl av ++ List.replicate (maxL - (lg_sl av).length) Slot.unset).toArray = ls at hl ⊢
  exact body p e s m below meth c (va_A w0 s.heap.size) ls B.exec B.bytes B.returns hml hown hts B.notSynchronized hin hP hN hD (fun q h => Or.inr h) va_S.rf hl hZ
section CS
variable {p : Program} {l : Launch} {e : Env} {R : Room} {s : State} {m : MethodId} {args : Array Value} {below : List Frame} {meth : Method} {c : Code} {H : Heap} {locs : List Loc} {cells slots : Nat} {Q : State → Prop}
variable {cc bytes : ByteArray} {pc : Nat} {ls : Array Slot} {rest : List Value} {D : va_G} {cs : Nat → ClassId} {A : Nat → Prop} {ws wc wr : va_W} {w1 : (Nat → Nat) → va_W} {y : MethodName} {wy Ts : List Cond} {fr lo mc ms nL maxL index n : Nat} {own : String} {ret : Option FieldType} {As st : List Value} {isC isR : List Nat}
theorem czv_v {b : Nat} {C : String} (S : CallFix p m c cc nL s args Ts own) (hM : ∀ sz, KSV l y wy fr lo mc ms D cs sz (.ref b :: As) wc w1) (cw : CallW R s args own C index y bytes maxL ret wy ({ frames := fr, cells := mc, slots := ms, locals := lo }) mc ms n) (hN : NK D cs s) (hP : va_P D vwCl ws H) (hD : va_D A ws) (hS : va_S A s.heap H locs) (hA : ∀ q, s.heap.size ≤ q → A q) (hZS : ZS cs A s s.heap) (isC isR : List Nat) (hC : isC.map (fun i => ws[i]?) = wc.map some) (hR : isR.map (fun i => ws[i]?) = wr.map some) (hnC : va_nd isC = true) (hnR : va_nd isR = true) (hdis : ∀ i ∈ isR, i ∉ isC) {ci : Nat} {q0 : Nat} {T : u_T} {N : Nat} {fs : List Value} (hci : vwCl[ci]? = some (C, T, N)) (hrec : wc[q0]? = some (b, .inr (ci, fs))) (hst : st = As.reverse ++ .ref b :: rest) (hn : As.length = n) (hsz : ls.size = nL) (hroom : (rest.map fun v => v.category).sum ≤ 8) (hdg : decode cc pc = .ok (.invokevirtual index, 3)) (hc1 : cells + mc ≤ R.cells) (hs1 : slots + ms ≤ R.slots)
    (kk : ∀ (u : Nat → Nat) (H1 : Heap) (locs1 : List Loc), va_P D vwCl (wr ++ w1 u) H1 → va_D A (wr ++ w1 u) → va_S A s.heap H1 locs1 → W p l e R s m args below meth c H1 locs1 (cells + mc) (slots + ms) Q (F0 m (pc + 3) ls rest)) : W p l e R s m args below meth c H locs cells slots Q (F0 m pc ls st) := by
  have hFc := va_free hD hS hA isC hC
  refine va_callv (va_runV (As := As) (rest := rest) S (hM H.size) cw ⟨PcS.blind, va_recv hN.1 (cl_P hP hC) hci hrec, fun U hU hW => ⟨rfl, ⟨by rw [hU], by rw [hU]; exact cl_P hP hC, NK.warm hW hN, (hD.sub isC hnC hC).weaken (fun _ _ _ _ => trivial)⟩, ZS.at hZS hS hFc hU hW⟩⟩ rfl hn hsz hst (lv_room hroom) hdg ⟨hc1, hs1⟩) hS (fun q _ h => hFc q h) hFc (fun u t H1 locs1 ht hvm hw hB hz1 hk1 hS1 => ?_)
  obtain ⟨hP1, hD1⟩ := hB
  rw [ht] at hP1
  obtain ⟨hP2, hD2⟩ := va_join hP hD isC isR hC hR hnR hdis hk1 hFc hP1 hD1
  exact kk u H1 locs1 hP2 hD2 hS1
theorem czv_i {b : Nat} {C : String} {v : Int32} (S : CallFix p m c cc nL s args Ts own) (hM : ∀ sz, KSI l y wy fr lo mc ms D cs sz (.ref b :: As) wc w1 v) (cw : CallW R s args own C index y bytes maxL ret wy ({ frames := fr, cells := mc, slots := ms, locals := lo }) mc ms n) (hN : NK D cs s) (hP : va_P D vwCl ws H) (hD : va_D A ws) (hS : va_S A s.heap H locs) (hA : ∀ q, s.heap.size ≤ q → A q) (hZS : ZS cs A s s.heap) (isC isR : List Nat) (hC : isC.map (fun i => ws[i]?) = wc.map some) (hR : isR.map (fun i => ws[i]?) = wr.map some) (hnC : va_nd isC = true) (hnR : va_nd isR = true) (hdis : ∀ i ∈ isR, i ∉ isC) {ci : Nat} {q0 : Nat} {T : u_T} {N : Nat} {fs : List Value} (hci : vwCl[ci]? = some (C, T, N)) (hrec : wc[q0]? = some (b, .inr (ci, fs))) (hst : st = As.reverse ++ .ref b :: rest) (hn : As.length = n) (hsz : ls.size = nL) (hroom : (rest.map fun v => v.category).sum ≤ 8) (hdg : decode cc pc = .ok (.invokevirtual index, 3)) (hc1 : cells + mc ≤ R.cells) (hs1 : slots + ms ≤ R.slots)
    (kk : ∀ (u : Nat → Nat) (H1 : Heap) (locs1 : List Loc), va_P D vwCl (wr ++ w1 u) H1 → va_D A (wr ++ w1 u) → va_S A s.heap H1 locs1 → W p l e R s m args below meth c H1 locs1 (cells + mc) (slots + ms) Q (F0 m (pc + 3) ls (.int v :: rest))) : W p l e R s m args below meth c H locs cells slots Q (F0 m pc ls st) := by
  have hFc := va_free hD hS hA isC hC
  refine va_calli (va_runV (As := As) (rest := rest) S (hM H.size) cw ⟨PcS.blind, va_recv hN.1 (cl_P hP hC) hci hrec, fun U hU hW => ⟨rfl, ⟨by rw [hU], by rw [hU]; exact cl_P hP hC, NK.warm hW hN, (hD.sub isC hnC hC).weaken (fun _ _ _ _ => trivial)⟩, ZS.at hZS hS hFc hU hW⟩⟩ rfl hn hsz hst (lv_room hroom) hdg ⟨hc1, hs1⟩) hS (fun q _ h => hFc q h) hFc (fun r u t H1 locs1 ht hvm hw hB hz1 hk1 hS1 => ?_)
  subst hw
  obtain ⟨hP1, hD1⟩ := hB
  rw [ht] at hP1
  obtain ⟨hP2, hD2⟩ := va_join hP hD isC isR hC hR hnR hdis hk1 hFc hP1 hD1
  exact kk u H1 locs1 hP2 hD2 hS1
theorem czr_v {b : Nat} (S : CallFix p m c cc nL s args Ts own) (hM : ∀ sz, KSV l y wy fr lo mc ms D cs sz (.ref b :: As) wc w1) (cw : CallW R s args own "java/lang/String" index y bytes maxL ret wy ({ frames := fr, cells := mc, slots := ms, locals := lo }) mc ms n) (hN : NK D cs s) (hP : va_P D vwCl ws H) (hD : va_D A ws) (hS : va_S A s.heap H locs) (hA : ∀ q, s.heap.size ≤ q → A q) (hZS : ZS cs A s s.heap) (isC isR : List Nat) (hC : isC.map (fun i => ws[i]?) = wc.map some) (hR : isR.map (fun i => ws[i]?) = wr.map some) (hnC : va_nd isC = true) (hnR : va_nd isR = true) (hdis : ∀ i ∈ isR, i ∉ isC) (hrec : b = cs 119) (hst : st = As.reverse ++ .ref b :: rest) (hn : As.length = n) (hsz : ls.size = nL) (hroom : (rest.map fun v => v.category).sum ≤ 8) (hdg : decode cc pc = .ok (.invokevirtual index, 3)) (hc1 : cells + mc ≤ R.cells) (hs1 : slots + ms ≤ R.slots)
    (kk : ∀ (u : Nat → Nat) (H1 : Heap) (locs1 : List Loc), va_P D vwCl (wr ++ w1 u) H1 → va_D A (wr ++ w1 u) → va_S A s.heap H1 locs1 → W p l e R s m args below meth c H1 locs1 (cells + mc) (slots + ms) Q (F0 m (pc + 3) ls rest)) : W p l e R s m args below meth c H locs cells slots Q (F0 m pc ls st) := by
  have hFc := va_free hD hS hA isC hC
  refine va_callv (va_runV (As := As) (rest := rest) S (hM H.size) cw ⟨PcS.blind, (by rw [hrec]; obtain ⟨cell, z1, z2, z3, -⟩ := hZS.1.kept hS.2.1; exact ⟨cell, z1, z2, z3⟩), fun U hU hW => ⟨rfl, ⟨by rw [hU], by rw [hU]; exact cl_P hP hC, NK.warm hW hN, (hD.sub isC hnC hC).weaken (fun _ _ _ _ => trivial)⟩, ZS.at hZS hS hFc hU hW⟩⟩ rfl hn hsz hst (lv_room hroom) hdg ⟨hc1, hs1⟩) hS (fun q _ h => hFc q h) hFc (fun u t H1 locs1 ht hvm hw hB hz1 hk1 hS1 => ?_)
  obtain ⟨hP1, hD1⟩ := hB
  rw [ht] at hP1
  obtain ⟨hP2, hD2⟩ := va_join hP hD isC isR hC hR hnR hdis hk1 hFc hP1 hD1
  exact kk u H1 locs1 hP2 hD2 hS1
theorem czr_i {b : Nat} {v : Int32} (S : CallFix p m c cc nL s args Ts own) (hM : ∀ sz, KSI l y wy fr lo mc ms D cs sz (.ref b :: As) wc w1 v) (cw : CallW R s args own "java/lang/String" index y bytes maxL ret wy ({ frames := fr, cells := mc, slots := ms, locals := lo }) mc ms n) (hN : NK D cs s) (hP : va_P D vwCl ws H) (hD : va_D A ws) (hS : va_S A s.heap H locs) (hA : ∀ q, s.heap.size ≤ q → A q) (hZS : ZS cs A s s.heap) (isC isR : List Nat) (hC : isC.map (fun i => ws[i]?) = wc.map some) (hR : isR.map (fun i => ws[i]?) = wr.map some) (hnC : va_nd isC = true) (hnR : va_nd isR = true) (hdis : ∀ i ∈ isR, i ∉ isC) (hrec : b = cs 119) (hst : st = As.reverse ++ .ref b :: rest) (hn : As.length = n) (hsz : ls.size = nL) (hroom : (rest.map fun v => v.category).sum ≤ 8) (hdg : decode cc pc = .ok (.invokevirtual index, 3)) (hc1 : cells + mc ≤ R.cells) (hs1 : slots + ms ≤ R.slots)
    (kk : ∀ (u : Nat → Nat) (H1 : Heap) (locs1 : List Loc), va_P D vwCl (wr ++ w1 u) H1 → va_D A (wr ++ w1 u) → va_S A s.heap H1 locs1 → W p l e R s m args below meth c H1 locs1 (cells + mc) (slots + ms) Q (F0 m (pc + 3) ls (.int v :: rest))) : W p l e R s m args below meth c H locs cells slots Q (F0 m pc ls st) := by
  have hFc := va_free hD hS hA isC hC
  refine va_calli (va_runV (As := As) (rest := rest) S (hM H.size) cw ⟨PcS.blind, (by rw [hrec]; obtain ⟨cell, z1, z2, z3, -⟩ := hZS.1.kept hS.2.1; exact ⟨cell, z1, z2, z3⟩), fun U hU hW => ⟨rfl, ⟨by rw [hU], by rw [hU]; exact cl_P hP hC, NK.warm hW hN, (hD.sub isC hnC hC).weaken (fun _ _ _ _ => trivial)⟩, ZS.at hZS hS hFc hU hW⟩⟩ rfl hn hsz hst (lv_room hroom) hdg ⟨hc1, hs1⟩) hS (fun q _ h => hFc q h) hFc (fun r u t H1 locs1 ht hvm hw hB hz1 hk1 hS1 => ?_)
  subst hw
  obtain ⟨hP1, hD1⟩ := hB
  rw [ht] at hP1
  obtain ⟨hP2, hD2⟩ := va_join hP hD isC isR hC hR hnR hdis hk1 hFc hP1 hD1
  exact kk u H1 locs1 hP2 hD2 hS1
theorem czs_v (S : CallFix p m c cc nL s args Ts own) (hM : ∀ sz, KSV l y wy fr lo mc ms D cs sz As wc w1) (cw : CallB R s args own index y bytes maxL ret wy ({ frames := fr, cells := mc, slots := ms, locals := lo }) mc ms n ∧ (Cond.static y).before args s = true) (hN : NK D cs s) (hP : va_P D vwCl ws H) (hD : va_D A ws) (hS : va_S A s.heap H locs) (hA : ∀ q, s.heap.size ≤ q → A q) (hZS : ZS cs A s s.heap) (isC isR : List Nat) (hC : isC.map (fun i => ws[i]?) = wc.map some) (hR : isR.map (fun i => ws[i]?) = wr.map some) (hnC : va_nd isC = true) (hnR : va_nd isR = true) (hdis : ∀ i ∈ isR, i ∉ isC) (hst : st = As.reverse ++ rest) (hn : As.length = n) (hsz : ls.size = nL) (hroom : (rest.map fun v => v.category).sum ≤ 8) (hdg : decode cc pc = .ok (.invokestatic index, 3)) (hc1 : cells + mc ≤ R.cells) (hs1 : slots + ms ≤ R.slots)
    (kk : ∀ (u : Nat → Nat) (H1 : Heap) (locs1 : List Loc), va_P D vwCl (wr ++ w1 u) H1 → va_D A (wr ++ w1 u) → va_S A s.heap H1 locs1 → W p l e R s m args below meth c H1 locs1 (cells + mc) (slots + ms) Q (F0 m (pc + 3) ls rest)) : W p l e R s m args below meth c H locs cells slots Q (F0 m pc ls st) := by
  have hFc := va_free hD hS hA isC hC
  refine va_callv (va_runS (As := As) (rest := rest) S (hM H.size) cw ⟨PcS.blind, fun U hU hW => ⟨rfl, ⟨by rw [hU], by rw [hU]; exact cl_P hP hC, NK.warm hW hN, (hD.sub isC hnC hC).weaken (fun _ _ _ _ => trivial)⟩, ZS.at hZS hS hFc hU hW⟩⟩ rfl hn hsz hst (lv_room hroom) hdg ⟨hc1, hs1⟩) hS (fun q _ h => hFc q h) hFc (fun u t H1 locs1 ht hvm hw hB hz1 hk1 hS1 => ?_)
  obtain ⟨hP1, hD1⟩ := hB
  rw [ht] at hP1
  obtain ⟨hP2, hD2⟩ := va_join hP hD isC isR hC hR hnR hdis hk1 hFc hP1 hD1
  exact kk u H1 locs1 hP2 hD2 hS1
theorem czs_i {v : Int32} (S : CallFix p m c cc nL s args Ts own) (hM : ∀ sz, KSI l y wy fr lo mc ms D cs sz As wc w1 v) (cw : CallB R s args own index y bytes maxL ret wy ({ frames := fr, cells := mc, slots := ms, locals := lo }) mc ms n ∧ (Cond.static y).before args s = true) (hN : NK D cs s) (hP : va_P D vwCl ws H) (hD : va_D A ws) (hS : va_S A s.heap H locs) (hA : ∀ q, s.heap.size ≤ q → A q) (hZS : ZS cs A s s.heap) (isC isR : List Nat) (hC : isC.map (fun i => ws[i]?) = wc.map some) (hR : isR.map (fun i => ws[i]?) = wr.map some) (hnC : va_nd isC = true) (hnR : va_nd isR = true) (hdis : ∀ i ∈ isR, i ∉ isC) (hst : st = As.reverse ++ rest) (hn : As.length = n) (hsz : ls.size = nL) (hroom : (rest.map fun v => v.category).sum ≤ 8) (hdg : decode cc pc = .ok (.invokestatic index, 3)) (hc1 : cells + mc ≤ R.cells) (hs1 : slots + ms ≤ R.slots)
    (kk : ∀ (u : Nat → Nat) (H1 : Heap) (locs1 : List Loc), va_P D vwCl (wr ++ w1 u) H1 → va_D A (wr ++ w1 u) → va_S A s.heap H1 locs1 → W p l e R s m args below meth c H1 locs1 (cells + mc) (slots + ms) Q (F0 m (pc + 3) ls (.int v :: rest))) : W p l e R s m args below meth c H locs cells slots Q (F0 m pc ls st) := by
  have hFc := va_free hD hS hA isC hC
  refine va_calli (va_runS (As := As) (rest := rest) S (hM H.size) cw ⟨PcS.blind, fun U hU hW => ⟨rfl, ⟨by rw [hU], by rw [hU]; exact cl_P hP hC, NK.warm hW hN, (hD.sub isC hnC hC).weaken (fun _ _ _ _ => trivial)⟩, ZS.at hZS hS hFc hU hW⟩⟩ rfl hn hsz hst (lv_room hroom) hdg ⟨hc1, hs1⟩) hS (fun q _ h => hFc q h) hFc (fun r u t H1 locs1 ht hvm hw hB hz1 hk1 hS1 => ?_)
  subst hw
  obtain ⟨hP1, hD1⟩ := hB
  rw [ht] at hP1
  obtain ⟨hP2, hD2⟩ := va_join hP hD isC isR hC hR hnR hdis hk1 hFc hP1 hD1
  exact kk u H1 locs1 hP2 hD2 hS1
end CS
