/-! ===== methods that return or throw ===== -/
abbrev XH (Qt : String → Heap → Prop) : String → State → State → Prop := fun E _ t => Qt E t.heap
def KT (l : Launch) (y : MethodName) (wy : List Cond) (fr lo mc ms : Nat) (D : va_G) (cs : Nat → ClassId) (B0 : Nat) (H0 : Heap) (av : List Value) (Qo : Option Value → Heap → Prop) (Qt : String → Heap → Prop) : Prop :=
  vx_Met l y wy ({ frames := fr, cells := mc, slots := ms, locals := lo }) (va_Pc av (fun U => U.heap = H0 ∧ NK D cs U ∧ EX cs B0 U U.heap)) (QcH Qo) (XH Qt) mc ms (fun q => B0 ≤ q)
theorem KT.of {l : Launch} {y : MethodName} {wy wy' : List Cond} {fr lo mc ms : Nat} {D : va_G} {cs : Nat → ClassId} {B0 : Nat} {H0 : Heap} {av : List Value} {Qo : Option Value → Heap → Prop} {Qt : String → Heap → Prop} (cc : ByteArray) (maxL : Nat) (ret : Option FieldType) (hy : plainName y.cls = true) (hw : wy = Cond.code y cc maxL ret :: wy') (hn : (lg_sl av).length ≤ maxL)
    (body : ∀ (p : Program) (e : Env) (s : State) (m : MethodId) (below : List Frame) (meth : Method) (c : Code) (ls : Array Slot), p.tables.exec = Jvm.exec → c.code = cc → meth.sig.returnType = ret → c.maxLocals = maxL → s.vm.findClass y.cls = some m.cls → (∀ w ∈ wy, w.before av.toArray s = true) → meth.locks = false → (∀ x ∈ c.exceptionTable.toList, False) → NK D cs s → EX cs B0 s s.heap → s.heap = H0 → lv_has ls maxL (lv_args 0 av) →
      W p l e ({ frames := fr, cells := mc, slots := ms, locals := lo } : Room) s m av.toArray below meth c H0 [] 0 0 (vx_MQ below (QcH Qo) (XH Qt) av.toArray s mc ms (fun q => B0 ≤ q)) (F0 m 0 ls [])) : KT l y wy fr lo mc ms D cs B0 H0 av Qo Qt := by
  refine vx_ofW (cc := cc) (maxL := maxL) (ret := ret) hy hw ?_
  intro p e s m args below meth c s₁ B hml hnx hv
  obtain ⟨rfl, hH, hN, hE⟩ := hv
  have hts := atoms_spec (ws := wy) B.pre
  have hown : s.vm.findClass y.cls = some m.cls := findClass_of_methodNamed B.named
  have hl := lv_entry av (n := maxL) hn
  rw [lg_entry_eq]
  generalize (lg_sl av ++ List.replicate (maxL - (lg_sl av).length) Slot.unset).toArray = ls at hl ⊢
  rw [hH]
  exact body p e s m below meth c ls B.exec B.bytes B.returns hml hown hts B.notSynchronized hnx hN hE hH hl
/-- a method with handlers that returns -/
theorem KC.ofH {l : Launch} {y : MethodName} {wy wy' : List Cond} {fr lo mc ms : Nat} {D : va_G} {cs : Nat → ClassId} {B0 : Nat} {H0 : Heap} {av : List Value} {Qo : Option Value → Heap → Prop} {hh : List (Nat × Nat × Nat × Nat)} (cc : ByteArray) (maxL : Nat) (ret : Option FieldType) (hy : plainName y.cls = true) (hw : wy = Cond.codeWith y cc maxL ret hh :: wy') (hn : (lg_sl av).length ≤ maxL)
    (body : ∀ (p : Program) (e : Env) (s : State) (m : MethodId) (below : List Frame) (meth : Method) (c : Code) (ls : Array Slot), p.tables.exec = Jvm.exec → c.code = cc → meth.sig.returnType = ret → c.maxLocals = maxL → s.vm.findClass y.cls = some m.cls → (∀ w ∈ wy, w.before av.toArray s = true) → meth.locks = false → c.exceptionTable.toList = tableOf hh → NK D cs s → EX cs B0 s s.heap → s.heap = H0 → lv_has ls maxL (lv_args 0 av) →
      W p l e ({ frames := fr, cells := mc, slots := ms, locals := lo } : Room) s m av.toArray below meth c H0 [] 0 0 (MQ below (QcH Qo) av.toArray s mc ms (fun q => B0 ≤ q)) (F0 m 0 ls [])) : KC l y wy fr lo mc ms D cs B0 H0 av Qo := by
  refine va_MetW (cc := cc) (maxL := maxL) (ret := ret) (hh := hh) hy hw ?_
  intro p e s m args below meth c s₁ B hml hv
  obtain ⟨rfl, hH, hN, hE⟩ := hv
  have hts := atoms_spec (ws := wy) B.pre
  have hown : s.vm.findClass y.cls = some m.cls := findClass_of_methodNamed B.named
  have htab := vx_table (x := y) B (hts _ (by rw [hw]; exact List.mem_cons_self))
  have hl := lv_entry av (n := maxL) hn
  rw [lg_entry_eq]
  generalize (lg_sl av ++ List.replicate (maxL - (lg_sl av).length) Slot.unset).toArray = ls at hl ⊢
  rw [hH]
  exact body p e s m below meth c ls B.exec B.bytes B.returns hml hown hts B.notSynchronized htab hN hE hH hl
section TT
variable {p : Program} {l : Launch} {e : Env} {R : Room} {s : State} {m : MethodId} {args : Array Value} {below : List Frame} {meth : Method} {c : Code} {H : Heap} {locs : List Loc} {cells slots : Nat} {Q : State → Prop}
variable {cc bytes : ByteArray} {pc : Nat} {ls : Array Slot} {rest : List Value} {D : va_G} {cs : Nat → ClassId} {B0 : Nat} {y : MethodName} {wy Ts : List Cond} {fr lo mc ms mc0 ms0 nL maxL index n : Nat} {own C : String} {ret : Option FieldType} {As st : List Value} {Qo Qp : Option Value → Heap → Prop} {Qt Qu : String → Heap → Prop}
theorem tcallX {st0 : List Value} {a : Array Value} (hr : vx_Run p l e R s m args below meth c H locs cells slots mc ms (F0 m pc ls st0) rest (QcH Qo a) (XH Qt) (fun q => B0 ≤ q)) (hL : OkL B0 locs)
    (kx : ∀ (E : String) (q9 : Addr) (ce : Cell) (H1 : Heap) (locs1 : List Loc), OkL B0 locs1 → Qt E H1 → H1[q9]? = some ce → ce.vm = .none → s.vm.findClass E = some ce.cls → vx_W p l e R s m args below meth c H1 locs1 (cells + mc) (slots + ms) Q (F0 m pc ls rest) q9)
    (kk : ∀ (v : Option Value) (H1 : Heap) (locs1 : List Loc), OkL B0 locs1 → Qo v H1 → W p l e R s m args below meth c H1 locs1 (cells + mc) (slots + ms) Q (F0 m (pc + 3) ls (v.toList ++ rest))) : W p l e R s m args below meth c H locs cells slots Q (F0 m pc ls st0) := by
  intro T hT X
  rcases hr T hT X with ⟨v, st₀, t, T', L, h0, X', hL', e1, e2, ⟨v', hv, hq⟩, st⟩ | ⟨q, st₀, t, T', L, E, ce, h0, X', hL', e1, e2, hq, hce, hcv, hcl, st⟩
  · cases hv
    obtain ⟨t2, a1, b1⟩ := kk v T'.heap (locs ++ L) (hL.app hL') (by rw [e1]; exact hq) T' rfl X'
    exact ⟨t2, st t2 a1, b1⟩
  · obtain ⟨t2, a1, b1⟩ := kx E q ce T'.heap (locs ++ L) (hL.app hL') (by rw [e1]; exact hq) (by rw [e1]; exact hce) hcv hcl T' rfl X'
    exact ⟨t2, st.trans a1, b1⟩
/-- a call of a method that may throw -/
theorem ct_V {b : Nat} (S : CallFix p m c cc nL s args Ts own) (hM : KT l y wy fr lo mc ms D cs B0 H (.ref b :: As) Qo Qt) (cw : CallW R s args own C index y bytes maxL ret wy ({ frames := fr, cells := mc, slots := ms, locals := lo }) mc ms n) (hN : NK D cs s) (hE : EX cs B0 s s.heap) (hL : OkL B0 locs) (hrec : ∃ cellB : Cell, H[b]? = some cellB ∧ cellB.vm.isStatics = false ∧ s.vm.findClass C = some cellB.cls) (hst : st = As.reverse ++ .ref b :: rest) (hn : As.length = n) (hsz : ls.size = nL) (hroom : (rest.map fun v => v.category).sum ≤ 8) (hdg : decode cc pc = .ok (.invokevirtual index, 3)) (hc1 : cells + mc ≤ R.cells) (hs1 : slots + ms ≤ R.slots)
    (kx : ∀ (E : String) (q9 : Addr) (ce : Cell) (H1 : Heap) (locs1 : List Loc), OkL B0 locs1 → Qt E H1 → H1[q9]? = some ce → ce.vm = .none → s.vm.findClass E = some ce.cls → vx_W p l e R s m args below meth c H1 locs1 (cells + mc) (slots + ms) Q (F0 m pc ls rest) q9)
    (kk : ∀ (v : Option Value) (H1 : Heap) (locs1 : List Loc), OkL B0 locs1 → Qo v H1 → W p l e R s m args below meth c H1 locs1 (cells + mc) (slots + ms) Q (F0 m (pc + 3) ls (v.toList ++ rest))) : W p l e R s m args below meth c H locs cells slots Q (F0 m pc ls st) := by
  refine W.old hL (fun hold => ?_)
  exact tcallX (vx_runV (As := As) (rest := rest) S hM cw ⟨pcH_blind, hrec, fun U hU hW => ⟨rfl, hU, NK.warm hW hN, EX.at hE hold hU hW⟩⟩ rfl hn hsz hst (lv_room hroom) hdg ⟨hc1, hs1⟩) hL kx kk
/-- it goes on to the caller -/
theorem ct_up {E : String} {q9 : Addr} {ce : Cell} (hnx : ∀ x ∈ c.exceptionTable.toList, False) (hlocks : meth.locks = false) (h1 : H[q9]? = some ce) (h2 : ce.vm = .none) (h3 : s.vm.findClass E = some ce.cls) (hq : Qu E H) (hL : OkL B0 locs) (hc : cells ≤ mc0) (hs : slots ≤ ms0) :
    vx_W p l e R s m args below meth c H locs cells slots (vx_MQ below (QcH Qp) (XH Qu) args s mc0 ms0 (fun q => B0 ≤ q)) (F0 m pc ls rest) q9 :=
  vx_out (fun x h => (hnx x h).elim) hlocks h1 h2 h3 (fun t ht _ => by show Qu E t.heap; rw [ht]; exact hq) hL hc hs
end TT
def TQ (L : List String) (H0 : Heap) (E : String) (H : Heap) : Prop := E ∈ L ∧ H0.size ≤ H.size ∧ (∀ q : Nat, q < H0.size → H[q]? = H0[q]?) ∧ Gr H0 H 1 6
theorem TQ.mono {L L' : List String} {H0 H : Heap} {E : String} (h : TQ L H0 E H) (hl : ∀ x ∈ L, x ∈ L') : TQ L' H0 E H := ⟨hl _ h.1, h.2⟩
theorem TQ.fr {B0 : Nat} {κ : KM} {L : List String} {H0 H : Heap} {E : String} (h : TQ L H0 E H) : Fr B0 [] κ H0 H := ⟨h.2.1, fun q hq _ => h.2.2.1 q hq⟩
theorem TQ.wt {B0 : Nat} {D : va_G} {cs : Nat → ClassId} {T : Nat} {κ : KM} {L : List String} {H0 H : Heap} {E : String} (h : TQ L H0 E H) (hT : WT B0 D cs T κ H0) : WT B0 D cs T κ H := fun a ha => by
  obtain ⟨h0, e, h1, h2⟩ := hT a ha
  exact ⟨h0, e, h1.kept (h.2.2.1 a h1.lt), h2⟩
