abbrev TY (cs : Nat → ClassId) : List (ClassId × FieldType) := [(cs 0, .int), (cs 1, .byte), (cs 2, .boolean), (cs 3, .long), (cs 4, .object RX3), (cs 5, .object RX7), (cs 6, .array .int)]
def nF : List (String × Nat × String × String × String × String) := [("OneBeat", 42, "OneBeat$Reader", "stored", "I", "OneBeat"), ("OneBeat", 59, "OneBeat$Reader", "errorCode", "I", "OneBeat"), ("OneBeat", 56, "OneBeat$Reader", "errorStart", "I", "OneBeat"), ("OneBeat", 100, "OneBeat$Mail", "total", "I", "OneBeat"), ("OneBeat$World", 172, "OneBeat$Mail", "total", "I", "OneBeat"), ("OneBeat$World", 285, "OneBeat$Proposal", "song", "I", "OneBeat"), ("OneBeat", 190, "OneBeat$Proposal", "beat", "I", "OneBeat"), ("OneBeat$World", 214, "OneBeat$Proposal", "beat", "I", "OneBeat"), ("OneBeat$World", 236, "OneBeat$Proposal", "deadline", "I", "OneBeat"), ("OneBeat$World", 273, "OneBeat$Proposal", "sender", "I", "OneBeat"), ("OneBeat$World", 276, "OneBeat$Proposal", "votes", "I", "OneBeat"), ("OneBeat", 139, "OneBeat$Proposal", "outcome", "I", "OneBeat"), ("OneBeat$World", 204, "OneBeat$Proposal", "outcome", "I", "OneBeat"), ("OneBeat$Mail", 40, "OneBeat$Letter", "kind", "I", "OneBeat"), ("OneBeat$World", 255, "OneBeat$Letter", "kind", "I", "OneBeat"), ("OneBeat$Mail", 45, "OneBeat$Letter", "from", "I", "OneBeat"), ("OneBeat$World", 258, "OneBeat$Letter", "from", "I", "OneBeat"), ("OneBeat$Mail", 48, "OneBeat$Letter", "to", "I", "OneBeat"), ("OneBeat$World", 252, "OneBeat$Letter", "to", "I", "OneBeat"), ("OneBeat$Mail", 51, "OneBeat$Letter", "number", "I", "OneBeat"), ("OneBeat$World", 299, "OneBeat$Letter", "number", "I", "OneBeat"), ("OneBeat$Mail", 54, "OneBeat$Letter", "proposal", "I", "OneBeat"), ("OneBeat$World", 267, "OneBeat$Letter", "proposal", "I", "OneBeat"), ("OneBeat$Mail", 57, "OneBeat$Letter", "first", "I", "OneBeat"), ("OneBeat$World", 261, "OneBeat$Letter", "first", "I", "OneBeat"), ("OneBeat$Mail", 60, "OneBeat$Letter", "second", "I", "OneBeat"), ("OneBeat$World", 264, "OneBeat$Letter", "second", "I", "OneBeat"), ("OneBeat$World", 129, "OneBeat$Player", "isUp", "Z", "OneBeat"), ("OneBeat", 163, "OneBeat$Player", "isUp", "Z", "OneBeat"), ("OneBeat$World", 113, "OneBeat$Player", "guess", "I", "OneBeat"), ("OneBeat$World", 137, "OneBeat$Player", "song", "I", "OneBeat"), ("OneBeat$World", 180, "OneBeat$Player", "plan", "I", "OneBeat"), ("OneBeat$World", 183, "OneBeat$Player", "planNumber", "I", "OneBeat"), ("OneBeat$World", 289, "OneBeat$Player", "planBeat", "I", "OneBeat"), ("OneBeat$World", 186, "OneBeat$Player", "changes", "I", "OneBeat"), ("OneBeat$World", 187, "OneBeat$Player", "late", "I", "OneBeat"), ("OneBeat$World", 188, "OneBeat$Player", "changedAt", "I", "OneBeat"), ("OneBeat", 69, "OneBeat$Setup", "players", "I", "OneBeat"), ("OneBeat$Reader", 130, "OneBeat$Setup", "players", "I", "OneBeat"), ("OneBeat$World", 127, "OneBeat$Setup", "players", "I", "OneBeat"), ("OneBeat$Reader", 98, "OneBeat$Setup", "need", "I", "OneBeat"), ("OneBeat$World", 282, "OneBeat$Setup", "need", "I", "OneBeat"), ("OneBeat$Reader", 105, "OneBeat$Setup", "patience", "I", "OneBeat"), ("OneBeat$World", 207, "OneBeat$Setup", "patience", "I", "OneBeat"), ("OneBeat$Reader", 112, "OneBeat$Setup", "margin", "LOneBeat$Formula;", "OneBeat"), ("OneBeat$World", 152, "OneBeat$Setup", "margin", "LOneBeat$Formula;", "OneBeat"), ("OneBeat", 155, "OneBeat$World", "setup", "LOneBeat$Setup;", "OneBeat"), ("OneBeat", 96, "OneBeat$World", "mail", "LOneBeat$Mail;", "OneBeat"), ("OneBeat", 118, "OneBeat$World", "latest", "LOneBeat$Proposal;", "OneBeat"), ("OneBeat", 193, "OneBeat$World", "conductor", "I", "OneBeat"), ("OneBeat", 113, "OneBeat$World", "made", "I", "OneBeat"), ("OneBeat", 203, "OneBeat$World", "changes", "I", "OneBeat"), ("OneBeat", 145, "OneBeat$World", "late", "I", "OneBeat")]
def nM : List (String × Nat × MethodName × String) := [("OneBeat", 9, ⟨"OneBeat$Reader", "<init>", "()V"⟩, "OneBeat"), ("OneBeat$World", 19, ⟨"OneBeat$Mail", "<init>", "()V"⟩, "OneBeat"), ("OneBeat$World", 26, ⟨"OneBeat$Proposal", "<init>", "()V"⟩, "OneBeat"), ("OneBeat$World", 33, ⟨"OneBeat$Letter", "<init>", "()V"⟩, "OneBeat"), ("OneBeat$World", 41, ⟨"OneBeat$Player", "<init>", "()V"⟩, "OneBeat")]
def nS : List (String × Nat × String) := [("OneBeat", 47, "length is 0 to the length of the buffer"), ("OneBeat$Reader", 47, "players"), ("OneBeat$Reader", 83, "clock"), ("OneBeat$Reader", 91, "link"), ("OneBeat$Reader", 96, "need"), ("OneBeat$Reader", 103, "patience"), ("OneBeat$Reader", 110, "margin"), ("OneBeat$Reader", 169, "delay"), ("OneBeat$Reader", 171, "up"), ("OneBeat$Reader", 173, "song"), ("OneBeat", 235, "what is out of range"), ("OneBeat", 232, "no such player"), ("OneBeat", 107, "no such message is on its way"), ("OneBeat", 116, "there was no proposal"), ("OneBeat", 180, "song is 0 to 99"), ("OneBeat", 184, "the conductor is down, or a proposal is open"), ("OneBeat", 196, "the player is down, or the conductor"), ("OneBeat", 201, "ticks is 1 to 50"), ("OneBeat", 213, "there is no such link"), ("OneBeatModel", 112, "players"), ("OneBeatModel", 148, "clock"), ("OneBeatModel", 153, "link"), ("OneBeatModel", 158, "need"), ("OneBeatModel", 163, "patience"), ("OneBeatModel", 165, "margin"), ("OneBeatModel", 118, "delay"), ("OneBeatModel", 120, "up"), ("OneBeatModel", 122, "song")]
def nE : List String := ["java/lang/IllegalArgumentException", "java/lang/IllegalStateException", "java/lang/IndexOutOfBoundsException", "java/util/NoSuchElementException"]
def nC : List (String × String) := [("java/lang/IndexOutOfBoundsException", "java/lang/IllegalArgumentException"), ("java/util/NoSuchElementException", "java/lang/IllegalArgumentException"), ("java/lang/IllegalStateException", "java/lang/IllegalArgumentException"), ("java/lang/IllegalArgumentException", "java/lang/IndexOutOfBoundsException"), ("java/util/NoSuchElementException", "java/lang/IndexOutOfBoundsException"), ("java/lang/IllegalStateException", "java/lang/IndexOutOfBoundsException"), ("java/lang/IllegalArgumentException", "java/util/NoSuchElementException"), ("java/lang/IndexOutOfBoundsException", "java/util/NoSuchElementException"), ("java/lang/IllegalStateException", "java/util/NoSuchElementException"), ("java/lang/IllegalArgumentException", "java/lang/IllegalStateException"), ("java/lang/IndexOutOfBoundsException", "java/lang/IllegalStateException"), ("java/util/NoSuchElementException", "java/lang/IllegalStateException")]
/-- what every contract takes of the tables: the classes, the arrays' classes, the links between nest mates -/
def NK (D : va_G) (cs : Nat → ClassId) (U : State) : Prop := va_K D vwCl (TY cs) U ∧ (∀ q ∈ nF, va_Nw (.fieldLinkNest q.1 q.2.1 q.2.2.1 q.2.2.2.1 q.2.2.2.2.1 q.2.2.2.2.2) U) ∧ (∀ q ∈ nM, va_Nw (.methodLinkNest q.1 q.2.1 q.2.2.1 q.2.2.2) U) ∧ va_AO RX3 U ∧ va_AO RX7 U ∧ va_AOA .int U ∧ (∀ i q, nS[i]? = some q → vk_R q.1 q.2.1 q.2.2 (cs (100 + i)) U) ∧ (∀ q ∈ nE, va_Nw (.castable q q) U) ∧ (∀ q ∈ nC, va_Nc q.1 q.2 U)
theorem NK.warm {D : va_G} {cs : Nat → ClassId} {s U : State} (hW : s.WarmedH U.vm) (h : NK D cs s) : NK D cs U :=
  ⟨va_K.moved hW.alike h.1, fun q hq => va_Nw.warmF hW (h.2.1 q hq), fun q hq => va_Nw.warmM hW (h.2.2.1 q hq), va_AO.moved hW.alike h.2.2.2.1, va_AO.moved hW.alike h.2.2.2.2.1, va_AOA.moved hW.alike h.2.2.2.2.2.1, fun i q hq => vk_R.warm hW (h.2.2.2.2.2.2.1 i q hq), fun q hq => va_Nw.warmC hW (h.2.2.2.2.2.2.2.1 q hq), fun q hq => va_Nc.moved hW.alike (h.2.2.2.2.2.2.2.2 q hq)⟩
theorem NK.same {D : va_G} {cs : Nat → ClassId} {u U : State} (e : u.vm = U.vm) (h : NK D cs u) : NK D cs U :=
  ⟨va_K.moved (by rw [e]; exact Vm.Alike.refl _) h.1, fun q hq => va_Nw.same rfl e (h.2.1 q hq), fun q hq => va_Nw.same rfl e (h.2.2.1 q hq), va_AO.moved (by rw [e]; exact Vm.Alike.refl _) h.2.2.2.1, va_AO.moved (by rw [e]; exact Vm.Alike.refl _) h.2.2.2.2.1, va_AOA.moved (by rw [e]; exact Vm.Alike.refl _) h.2.2.2.2.2.1, fun i q hq => vk_R.same e.symm (h.2.2.2.2.2.2.1 i q hq), fun q hq => va_Nw.same rfl e (h.2.2.2.2.2.2.2.1 q hq), fun q hq => va_Nc.moved (by rw [e]; exact Vm.Alike.refl _) (h.2.2.2.2.2.2.2.2 q hq)⟩
theorem NK.f {D : va_G} {cs : Nat → ClassId} {s : State} {args : Array Value} (h : NK D cs s) {a : String} {i : Nat} {b n d o : String} (k : Nat) (hk : nF[k]? = some (a, i, b, n, d, o)) : (Cond.fieldLinkNest a i b n d o).before args s = true := va_Nw.use rfl (h.2.1 _ (List.mem_of_getElem? hk))
theorem NK.s {D : va_G} {cs : Nat → ClassId} {s : State} (h : NK D cs s) {a t : String} {i : Nat} (k : Nat) (hk : nS[k]? = some (a, i, t)) : vk_R a i t (cs (100 + k)) s := h.2.2.2.2.2.2.1 k _ hk
theorem NK.m {D : va_G} {cs : Nat → ClassId} {s : State} (h : NK D cs s) {a : String} {i : Nat} {y : MethodName} {o : String} (k : Nat) (hk : nM[k]? = some (a, i, y, o)) : va_Nw (.methodLinkNest a i y o) s := h.2.2.1 _ (List.mem_of_getElem? hk)
/-- the world before a method: the cells ws, sz cells in all -/
def PcW (D : va_G) (cs : Nat → ClassId) (sz : Nat) (ws : va_W) : State → Prop := fun U => U.heap.size = sz ∧ va_P D vwCl ws U.heap ∧ NK D cs U ∧ va_D (fun _ => True) ws
/-- the world behind a method -/
def QcW (D : va_G) (A : Nat → Prop) (w1 : (Nat → Nat) → va_W) : (Nat → Nat) → State → Prop := fun u t => va_P D vwCl (w1 u) t.heap ∧ va_D A (w1 u)
/-- contracts: from the cells w0 to the cells w1 u (u: the addresses of what is new), with the answer v u -/
def KV (l : Launch) (y : MethodName) (wy : List Cond) (fr lo mc ms : Nat) (D : va_G) (cs : Nat → ClassId) (sz : Nat) (av : List Value) (w0 : va_W) (w1 : (Nat → Nat) → va_W) : Prop :=
  Met l y wy ({ frames := fr, cells := mc, slots := ms, locals := lo }) (va_Pc av (PcW D cs sz w0)) (va_Qv (fun _ : Nat → Nat => True) (QcW D (va_A w0 sz) w1) (va_A w0 sz)) mc ms (va_A w0 sz)
def KI (l : Launch) (y : MethodName) (wy : List Cond) (fr lo mc ms : Nat) (D : va_G) (cs : Nat → ClassId) (sz : Nat) (av : List Value) (w0 : va_W) (w1 : (Nat → Nat) → va_W) (v : Int32) : Prop :=
  Met l y wy ({ frames := fr, cells := mc, slots := ms, locals := lo }) (va_Pc av (PcW D cs sz w0)) (va_Qi (fun (r : Int32) (_ : Nat → Nat) => r = v) (QcW D (va_A w0 sz) w1) (va_A w0 sz)) mc ms (va_A w0 sz)
def KL (l : Launch) (y : MethodName) (wy : List Cond) (fr lo mc ms : Nat) (D : va_G) (cs : Nat → ClassId) (sz : Nat) (av : List Value) (w0 : va_W) (w1 : (Nat → Nat) → va_W) (v : Int64) : Prop :=
  Met l y wy ({ frames := fr, cells := mc, slots := ms, locals := lo }) (va_Pc av (PcW D cs sz w0)) (va_Ql (fun (r : Int64) (_ : Nat → Nat) => r = v) (QcW D (va_A w0 sz) w1) (va_A w0 sz)) mc ms (va_A w0 sz)
def KQ (l : Launch) (y : MethodName) (wy : List Cond) (fr lo mc ms : Nat) (D : va_G) (cs : Nat → ClassId) (sz : Nat) (av : List Value) (w0 : va_W) (w1 : (Nat → Nat) → va_W) (v : (Nat → Nat) → Option Nat) : Prop :=
  Met l y wy ({ frames := fr, cells := mc, slots := ms, locals := lo }) (va_Pc av (PcW D cs sz w0)) (va_Qq (fun (r : Option Nat) (u : Nat → Nat) => r = v u) (QcW D (va_A w0 sz) w1) (va_A w0 sz)) mc ms (va_A w0 sz)
theorem PcW.blind {D : va_G} {cs : Nat → ClassId} {sz : Nat} {ws : va_W} {av : List Value} : FrameBlind (va_Pc av (PcW D cs sz ws)) :=
  fun _ _ _ _ q => ⟨q.1, q.2.1, q.2.2.1, NK.same rfl q.2.2.2.1, q.2.2.2.2⟩
theorem KV.of {l : Launch} {y : MethodName} {wy wy' : List Cond} {fr lo mc ms : Nat} {D : va_G} {cs : Nat → ClassId} {sz : Nat} {av : List Value} {w0 : va_W} {w1 : (Nat → Nat) → va_W} (cc : ByteArray) (maxL : Nat) (ret : Option FieldType) (hy : plainName y.cls = true) (hw : wy = Cond.code y cc maxL ret :: wy') (hn : (lg_sl av).length ≤ maxL)
    (body : ∀ (p : Program) (e : Env) (s : State) (m : MethodId) (below : List Frame) (meth : Method) (c : Code) (A : Nat → Prop) (ls : Array Slot), p.tables.exec = Jvm.exec → c.code = cc → meth.sig.returnType = ret → c.maxLocals = maxL → s.vm.findClass y.cls = some m.cls → (∀ w ∈ wy, w.before av.toArray s = true) → meth.locks = false → meth.name = y.name → va_P D vwCl w0 s.heap → NK D cs s → va_D A w0 → (∀ q : Nat, s.heap.size ≤ q → A q) → va_S A s.heap s.heap [] → lv_has ls maxL (lv_args 0 av) →
      W p l e ({ frames := fr, cells := mc, slots := ms, locals := lo } : Room) s m av.toArray below meth c s.heap [] 0 0 (MQ below (va_Qv (fun _ : Nat → Nat => True) (QcW D A w1) A) av.toArray s mc ms A) (F0 m 0 ls [])) : KV l y wy fr lo mc ms D cs sz av w0 w1 := by
  refine Met.ofW (cc := cc) (maxL := maxL) (ret := ret) hy hw ?_
  intro p e s m args below meth c s₁ B hml hv
  obtain ⟨rfl, hsz, hP, hN, hD0⟩ := hv
  have hts := atoms_spec (ws := wy) B.pre
  have hown : s.vm.findClass y.cls = some m.cls := findClass_of_methodNamed B.named
  have hin : meth.name = y.name := (name_of_methodNamed B.named B.method).1
  subst hsz
  have hD := hD0.self (sz := s.heap.size)
  have hl := lv_entry av (n := maxL) hn
  rw [lg_entry_eq]
  generalize (lg_sl av ++ List.replicate (maxL - (lg_sl av).length) Slot.unset).toArray = ls at hl ⊢
  exact body p e s m below meth c (va_A w0 s.heap.size) ls B.exec B.bytes B.returns hml hown hts B.notSynchronized hin hP hN hD (fun q h => Or.inr h) va_S.rf hl
theorem KI.of {l : Launch} {y : MethodName} {wy wy' : List Cond} {fr lo mc ms : Nat} {D : va_G} {cs : Nat → ClassId} {sz : Nat} {av : List Value} {w0 : va_W} {w1 : (Nat → Nat) → va_W} {v : Int32} (cc : ByteArray) (maxL : Nat) (ret : Option FieldType) (hy : plainName y.cls = true) (hw : wy = Cond.code y cc maxL ret :: wy') (hn : (lg_sl av).length ≤ maxL)
    (body : ∀ (p : Program) (e : Env) (s : State) (m : MethodId) (below : List Frame) (meth : Method) (c : Code) (A : Nat → Prop) (ls : Array Slot), p.tables.exec = Jvm.exec → c.code = cc → meth.sig.returnType = ret → c.maxLocals = maxL → s.vm.findClass y.cls = some m.cls → (∀ w ∈ wy, w.before av.toArray s = true) → meth.locks = false → meth.name = y.name → va_P D vwCl w0 s.heap → NK D cs s → va_D A w0 → (∀ q : Nat, s.heap.size ≤ q → A q) → va_S A s.heap s.heap [] → lv_has ls maxL (lv_args 0 av) →
      W p l e ({ frames := fr, cells := mc, slots := ms, locals := lo } : Room) s m av.toArray below meth c s.heap [] 0 0 (MQ below (va_Qi (fun (r : Int32) (_ : Nat → Nat) => r = v) (QcW D A w1) A) av.toArray s mc ms A) (F0 m 0 ls [])) : KI l y wy fr lo mc ms D cs sz av w0 w1 v := by
  refine Met.ofW (cc := cc) (maxL := maxL) (ret := ret) hy hw ?_
  intro p e s m args below meth c s₁ B hml hv
  obtain ⟨rfl, hsz, hP, hN, hD0⟩ := hv
  have hts := atoms_spec (ws := wy) B.pre
  have hown : s.vm.findClass y.cls = some m.cls := findClass_of_methodNamed B.named
  have hin : meth.name = y.name := (name_of_methodNamed B.named B.method).1
  subst hsz
  have hD := hD0.self (sz := s.heap.size)
  have hl := lv_entry av (n := maxL) hn
  rw [lg_entry_eq]
  generalize (lg_sl av ++ List.replicate (maxL - (lg_sl av).length) Slot.unset).toArray = ls at hl ⊢
  exact body p e s m below meth c (va_A w0 s.heap.size) ls B.exec B.bytes B.returns hml hown hts B.notSynchronized hin hP hN hD (fun q h => Or.inr h) va_S.rf hl
theorem KL.of {l : Launch} {y : MethodName} {wy wy' : List Cond} {fr lo mc ms : Nat} {D : va_G} {cs : Nat → ClassId} {sz : Nat} {av : List Value} {w0 : va_W} {w1 : (Nat → Nat) → va_W} {v : Int64} (cc : ByteArray) (maxL : Nat) (ret : Option FieldType) (hy : plainName y.cls = true) (hw : wy = Cond.code y cc maxL ret :: wy') (hn : (lg_sl av).length ≤ maxL)
    (body : ∀ (p : Program) (e : Env) (s : State) (m : MethodId) (below : List Frame) (meth : Method) (c : Code) (A : Nat → Prop) (ls : Array Slot), p.tables.exec = Jvm.exec → c.code = cc → meth.sig.returnType = ret → c.maxLocals = maxL → s.vm.findClass y.cls = some m.cls → (∀ w ∈ wy, w.before av.toArray s = true) → meth.locks = false → meth.name = y.name → va_P D vwCl w0 s.heap → NK D cs s → va_D A w0 → (∀ q : Nat, s.heap.size ≤ q → A q) → va_S A s.heap s.heap [] → lv_has ls maxL (lv_args 0 av) →
      W p l e ({ frames := fr, cells := mc, slots := ms, locals := lo } : Room) s m av.toArray below meth c s.heap [] 0 0 (MQ below (va_Ql (fun (r : Int64) (_ : Nat → Nat) => r = v) (QcW D A w1) A) av.toArray s mc ms A) (F0 m 0 ls [])) : KL l y wy fr lo mc ms D cs sz av w0 w1 v := by
  refine Met.ofW (cc := cc) (maxL := maxL) (ret := ret) hy hw ?_
  intro p e s m args below meth c s₁ B hml hv
  obtain ⟨rfl, hsz, hP, hN, hD0⟩ := hv
  have hts := atoms_spec (ws := wy) B.pre
  have hown : s.vm.findClass y.cls = some m.cls := findClass_of_methodNamed B.named
  have hin : meth.name = y.name := (name_of_methodNamed B.named B.method).1
  subst hsz
  have hD := hD0.self (sz := s.heap.size)
  have hl := lv_entry av (n := maxL) hn
  rw [lg_entry_eq]
  generalize (lg_sl av ++ List.replicate (maxL - (lg_sl av).length) Slot.unset).toArray = ls at hl ⊢
  exact body p e s m below meth c (va_A w0 s.heap.size) ls B.exec B.bytes B.returns hml hown hts B.notSynchronized hin hP hN hD (fun q h => Or.inr h) va_S.rf hl
theorem KQ.of {l : Launch} {y : MethodName} {wy wy' : List Cond} {fr lo mc ms : Nat} {D : va_G} {cs : Nat → ClassId} {sz : Nat} {av : List Value} {w0 : va_W} {w1 : (Nat → Nat) → va_W} {v : (Nat → Nat) → Option Nat} (cc : ByteArray) (maxL : Nat) (ret : Option FieldType) (hy : plainName y.cls = true) (hw : wy = Cond.code y cc maxL ret :: wy') (hn : (lg_sl av).length ≤ maxL)
    (body : ∀ (p : Program) (e : Env) (s : State) (m : MethodId) (below : List Frame) (meth : Method) (c : Code) (A : Nat → Prop) (ls : Array Slot), p.tables.exec = Jvm.exec → c.code = cc → meth.sig.returnType = ret → c.maxLocals = maxL → s.vm.findClass y.cls = some m.cls → (∀ w ∈ wy, w.before av.toArray s = true) → meth.locks = false → meth.name = y.name → va_P D vwCl w0 s.heap → NK D cs s → va_D A w0 → (∀ q : Nat, s.heap.size ≤ q → A q) → va_S A s.heap s.heap [] → lv_has ls maxL (lv_args 0 av) →
      W p l e ({ frames := fr, cells := mc, slots := ms, locals := lo } : Room) s m av.toArray below meth c s.heap [] 0 0 (MQ below (va_Qq (fun (r : Option Nat) (u : Nat → Nat) => r = v u) (QcW D A w1) A) av.toArray s mc ms A) (F0 m 0 ls [])) : KQ l y wy fr lo mc ms D cs sz av w0 w1 v := by
  refine Met.ofW (cc := cc) (maxL := maxL) (ret := ret) hy hw ?_
  intro p e s m args below meth c s₁ B hml hv
  obtain ⟨rfl, hsz, hP, hN, hD0⟩ := hv
  have hts := atoms_spec (ws := wy) B.pre
  have hown : s.vm.findClass y.cls = some m.cls := findClass_of_methodNamed B.named
  have hin : meth.name = y.name := (name_of_methodNamed B.named B.method).1
  subst hsz
  have hD := hD0.self (sz := s.heap.size)
  have hl := lv_entry av (n := maxL) hn
  rw [lg_entry_eq]
  generalize (lg_sl av ++ List.replicate (maxL - (lg_sl av).length) Slot.unset).toArray = ls at hl ⊢
  exact body p e s m below meth c (va_A w0 s.heap.size) ls B.exec B.bytes B.returns hml hown hts B.notSynchronized hin hP hN hD (fun q h => Or.inr h) va_S.rf hl
theorem cl_at {α β : Type} {g : α → Option β} {is : List α} {wc : List β} (hC : is.map g = wc.map some) (k : Nat) (q : β) (hk : wc[k]? = some q) : ∃ i, is[k]? = some i ∧ g i = some q := by
  have h := congrArg (fun z => z[k]?) hC
  simp only [List.getElem?_map, hk, Option.map_some] at h
  cases hi : is[k]? with
  | none => rw [hi] at h; simp at h
  | some i => rw [hi] at h; exact ⟨i, rfl, Option.some.inj h⟩
theorem cl_P {D : va_G} {cl : List vw_C} {ws wc : va_W} {H : Heap} {isC : List Nat} (hP : va_P D cl ws H) (hC : isC.map (fun i => ws[i]?) = wc.map some) : va_P D cl wc H := fun k q hk => by
  obtain ⟨i, -, hi⟩ := cl_at hC k q hk
  exact hP i q hi
section CL
variable {p : Program} {l : Launch} {e : Env} {R : Room} {s : State} {m : MethodId} {args : Array Value} {below : List Frame} {meth : Method} {c : Code} {H : Heap} {locs : List Loc} {cells slots : Nat} {Q : State → Prop}
variable {cc bytes : ByteArray} {pc : Nat} {ls : Array Slot} {rest : List Value} {D : va_G} {cs : Nat → ClassId} {A : Nat → Prop} {ws wc wr : va_W} {w1 : (Nat → Nat) → va_W} {H0 : Heap} {y : MethodName} {wy Ts : List Cond} {fr lo mc ms nL maxL index n : Nat} {own : String} {ret : Option FieldType} {As st : List Value} {isC isR : List Nat}
/-- a computed number on the stack gets the form y -/
theorem tp_i {x : Int32} (y : Int32) (h : x = y) (k : W p l e R s m args below meth c H locs cells slots Q (F0 m pc ls (.int y :: rest))) : W p l e R s m args below meth c H locs cells slots Q (F0 m pc ls (.int x :: rest)) := by
  rw [h]; exact k
theorem tp_l {x : Int64} (y : Int64) (h : x = y) (k : W p l e R s m args below meth c H locs cells slots Q (F0 m pc ls (.long y :: rest))) : W p l e R s m args below meth c H locs cells slots Q (F0 m pc ls (.long x :: rest)) := by
  rw [h]; exact k
theorem cv_v {b : Nat} {C : String} (S : CallFix p m c cc nL s args Ts own) (hM : ∀ sz, KV l y wy fr lo mc ms D cs sz (.ref b :: As) wc w1) (cw : CallW R s args own C index y bytes maxL ret wy ({ frames := fr, cells := mc, slots := ms, locals := lo }) mc ms n) (hN : NK D cs s) (hP : va_P D vwCl ws H) (hD : va_D A ws) (hS : va_S A H0 H locs) (hA : ∀ q, H0.size ≤ q → A q) (isC isR : List Nat) (hC : isC.map (fun i => ws[i]?) = wc.map some) (hR : isR.map (fun i => ws[i]?) = wr.map some) (hnC : va_nd isC = true) (hnR : va_nd isR = true) (hdis : ∀ i ∈ isR, i ∉ isC) {ci : Nat} {q0 : Nat} {T : u_T} {N : Nat} {fs : List Value} (hci : vwCl[ci]? = some (C, T, N)) (hrec : wc[q0]? = some (b, .inr (ci, fs))) (hst : st = As.reverse ++ .ref b :: rest) (hn : As.length = n) (hsz : ls.size = nL) (hroom : (rest.map fun v => v.category).sum ≤ 8) (hdg : decode cc pc = .ok (.invokevirtual index, 3)) (hc1 : cells + mc ≤ R.cells) (hs1 : slots + ms ≤ R.slots)
    (kk : ∀ (u : Nat → Nat) (H1 : Heap) (locs1 : List Loc), va_P D vwCl (wr ++ w1 u) H1 → va_D A (wr ++ w1 u) → va_S A H0 H1 locs1 → W p l e R s m args below meth c H1 locs1 (cells + mc) (slots + ms) Q (F0 m (pc + 3) ls rest)) : W p l e R s m args below meth c H locs cells slots Q (F0 m pc ls st) := by
  have hFc := va_free hD hS hA isC hC
  refine va_callv (va_runV (As := As) (rest := rest) S (hM H.size) cw ⟨PcW.blind, va_recv hN.1 (cl_P hP hC) hci hrec, fun U hU hW => ⟨rfl, by rw [hU], by rw [hU]; exact cl_P hP hC, NK.warm hW hN, (hD.sub isC hnC hC).weaken (fun _ _ _ _ => trivial)⟩⟩ rfl hn hsz hst (lv_room hroom) hdg ⟨hc1, hs1⟩) hS (fun q _ h => hFc q h) hFc (fun u t H1 locs1 ht hvm hw hB hz1 hk1 hS1 => ?_)
  obtain ⟨hP1, hD1⟩ := hB
  rw [ht] at hP1
  obtain ⟨hP2, hD2⟩ := va_join hP hD isC isR hC hR hnR hdis hk1 hFc hP1 hD1
  exact kk u H1 locs1 hP2 hD2 hS1
theorem cv_i {b : Nat} {C : String} {v : Int32} (S : CallFix p m c cc nL s args Ts own) (hM : ∀ sz, KI l y wy fr lo mc ms D cs sz (.ref b :: As) wc w1 v) (cw : CallW R s args own C index y bytes maxL ret wy ({ frames := fr, cells := mc, slots := ms, locals := lo }) mc ms n) (hN : NK D cs s) (hP : va_P D vwCl ws H) (hD : va_D A ws) (hS : va_S A H0 H locs) (hA : ∀ q, H0.size ≤ q → A q) (isC isR : List Nat) (hC : isC.map (fun i => ws[i]?) = wc.map some) (hR : isR.map (fun i => ws[i]?) = wr.map some) (hnC : va_nd isC = true) (hnR : va_nd isR = true) (hdis : ∀ i ∈ isR, i ∉ isC) {ci : Nat} {q0 : Nat} {T : u_T} {N : Nat} {fs : List Value} (hci : vwCl[ci]? = some (C, T, N)) (hrec : wc[q0]? = some (b, .inr (ci, fs))) (hst : st = As.reverse ++ .ref b :: rest) (hn : As.length = n) (hsz : ls.size = nL) (hroom : (rest.map fun v => v.category).sum ≤ 8) (hdg : decode cc pc = .ok (.invokevirtual index, 3)) (hc1 : cells + mc ≤ R.cells) (hs1 : slots + ms ≤ R.slots)
    (kk : ∀ (u : Nat → Nat) (H1 : Heap) (locs1 : List Loc), va_P D vwCl (wr ++ w1 u) H1 → va_D A (wr ++ w1 u) → va_S A H0 H1 locs1 → W p l e R s m args below meth c H1 locs1 (cells + mc) (slots + ms) Q (F0 m (pc + 3) ls (.int v :: rest))) : W p l e R s m args below meth c H locs cells slots Q (F0 m pc ls st) := by
  have hFc := va_free hD hS hA isC hC
  refine va_calli (va_runV (As := As) (rest := rest) S (hM H.size) cw ⟨PcW.blind, va_recv hN.1 (cl_P hP hC) hci hrec, fun U hU hW => ⟨rfl, by rw [hU], by rw [hU]; exact cl_P hP hC, NK.warm hW hN, (hD.sub isC hnC hC).weaken (fun _ _ _ _ => trivial)⟩⟩ rfl hn hsz hst (lv_room hroom) hdg ⟨hc1, hs1⟩) hS (fun q _ h => hFc q h) hFc (fun r u t H1 locs1 ht hvm hw hB hz1 hk1 hS1 => ?_)
  subst hw
  obtain ⟨hP1, hD1⟩ := hB
  rw [ht] at hP1
  obtain ⟨hP2, hD2⟩ := va_join hP hD isC isR hC hR hnR hdis hk1 hFc hP1 hD1
  exact kk u H1 locs1 hP2 hD2 hS1
theorem cv_l {b : Nat} {C : String} {v : Int64} (S : CallFix p m c cc nL s args Ts own) (hM : ∀ sz, KL l y wy fr lo mc ms D cs sz (.ref b :: As) wc w1 v) (cw : CallW R s args own C index y bytes maxL ret wy ({ frames := fr, cells := mc, slots := ms, locals := lo }) mc ms n) (hN : NK D cs s) (hP : va_P D vwCl ws H) (hD : va_D A ws) (hS : va_S A H0 H locs) (hA : ∀ q, H0.size ≤ q → A q) (isC isR : List Nat) (hC : isC.map (fun i => ws[i]?) = wc.map some) (hR : isR.map (fun i => ws[i]?) = wr.map some) (hnC : va_nd isC = true) (hnR : va_nd isR = true) (hdis : ∀ i ∈ isR, i ∉ isC) {ci : Nat} {q0 : Nat} {T : u_T} {N : Nat} {fs : List Value} (hci : vwCl[ci]? = some (C, T, N)) (hrec : wc[q0]? = some (b, .inr (ci, fs))) (hst : st = As.reverse ++ .ref b :: rest) (hn : As.length = n) (hsz : ls.size = nL) (hroom : (rest.map fun v => v.category).sum ≤ 8) (hdg : decode cc pc = .ok (.invokevirtual index, 3)) (hc1 : cells + mc ≤ R.cells) (hs1 : slots + ms ≤ R.slots)
    (kk : ∀ (u : Nat → Nat) (H1 : Heap) (locs1 : List Loc), va_P D vwCl (wr ++ w1 u) H1 → va_D A (wr ++ w1 u) → va_S A H0 H1 locs1 → W p l e R s m args below meth c H1 locs1 (cells + mc) (slots + ms) Q (F0 m (pc + 3) ls (.long v :: rest))) : W p l e R s m args below meth c H locs cells slots Q (F0 m pc ls st) := by
  have hFc := va_free hD hS hA isC hC
  refine va_calll (va_runV (As := As) (rest := rest) S (hM H.size) cw ⟨PcW.blind, va_recv hN.1 (cl_P hP hC) hci hrec, fun U hU hW => ⟨rfl, by rw [hU], by rw [hU]; exact cl_P hP hC, NK.warm hW hN, (hD.sub isC hnC hC).weaken (fun _ _ _ _ => trivial)⟩⟩ rfl hn hsz hst (lv_room hroom) hdg ⟨hc1, hs1⟩) hS (fun q _ h => hFc q h) hFc (fun r u t H1 locs1 ht hvm hw hB hz1 hk1 hS1 => ?_)
  subst hw
  obtain ⟨hP1, hD1⟩ := hB
  rw [ht] at hP1
  obtain ⟨hP2, hD2⟩ := va_join hP hD isC isR hC hR hnR hdis hk1 hFc hP1 hD1
  exact kk u H1 locs1 hP2 hD2 hS1
theorem cv_q {b : Nat} {C : String} {v : (Nat → Nat) → Option Nat} (S : CallFix p m c cc nL s args Ts own) (hM : ∀ sz, KQ l y wy fr lo mc ms D cs sz (.ref b :: As) wc w1 v) (cw : CallW R s args own C index y bytes maxL ret wy ({ frames := fr, cells := mc, slots := ms, locals := lo }) mc ms n) (hN : NK D cs s) (hP : va_P D vwCl ws H) (hD : va_D A ws) (hS : va_S A H0 H locs) (hA : ∀ q, H0.size ≤ q → A q) (isC isR : List Nat) (hC : isC.map (fun i => ws[i]?) = wc.map some) (hR : isR.map (fun i => ws[i]?) = wr.map some) (hnC : va_nd isC = true) (hnR : va_nd isR = true) (hdis : ∀ i ∈ isR, i ∉ isC) {ci : Nat} {q0 : Nat} {T : u_T} {N : Nat} {fs : List Value} (hci : vwCl[ci]? = some (C, T, N)) (hrec : wc[q0]? = some (b, .inr (ci, fs))) (hst : st = As.reverse ++ .ref b :: rest) (hn : As.length = n) (hsz : ls.size = nL) (hroom : (rest.map fun v => v.category).sum ≤ 8) (hdg : decode cc pc = .ok (.invokevirtual index, 3)) (hc1 : cells + mc ≤ R.cells) (hs1 : slots + ms ≤ R.slots)
    (kk : ∀ (u : Nat → Nat) (H1 : Heap) (locs1 : List Loc), va_P D vwCl (wr ++ w1 u) H1 → va_D A (wr ++ w1 u) → va_S A H0 H1 locs1 → W p l e R s m args below meth c H1 locs1 (cells + mc) (slots + ms) Q (F0 m (pc + 3) ls (va_rf (v u) :: rest))) : W p l e R s m args below meth c H locs cells slots Q (F0 m pc ls st) := by
  have hFc := va_free hD hS hA isC hC
  refine va_callq (va_runV (As := As) (rest := rest) S (hM H.size) cw ⟨PcW.blind, va_recv hN.1 (cl_P hP hC) hci hrec, fun U hU hW => ⟨rfl, by rw [hU], by rw [hU]; exact cl_P hP hC, NK.warm hW hN, (hD.sub isC hnC hC).weaken (fun _ _ _ _ => trivial)⟩⟩ rfl hn hsz hst (lv_room hroom) hdg ⟨hc1, hs1⟩) hS (fun q _ h => hFc q h) hFc (fun r u t H1 locs1 ht hvm hw hB hz1 hk1 hS1 => ?_)
  subst hw
  obtain ⟨hP1, hD1⟩ := hB
  rw [ht] at hP1
  obtain ⟨hP2, hD2⟩ := va_join hP hD isC isR hC hR hnR hdis hk1 hFc hP1 hD1
  exact kk u H1 locs1 hP2 hD2 hS1
theorem cs_v (S : CallFix p m c cc nL s args Ts own) (hM : ∀ sz, KV l y wy fr lo mc ms D cs sz As wc w1) (cw : CallB R s args own index y bytes maxL ret wy ({ frames := fr, cells := mc, slots := ms, locals := lo }) mc ms n ∧ (Cond.static y).before args s = true) (hN : NK D cs s) (hP : va_P D vwCl ws H) (hD : va_D A ws) (hS : va_S A H0 H locs) (hA : ∀ q, H0.size ≤ q → A q) (isC isR : List Nat) (hC : isC.map (fun i => ws[i]?) = wc.map some) (hR : isR.map (fun i => ws[i]?) = wr.map some) (hnC : va_nd isC = true) (hnR : va_nd isR = true) (hdis : ∀ i ∈ isR, i ∉ isC) (hst : st = As.reverse ++ rest) (hn : As.length = n) (hsz : ls.size = nL) (hroom : (rest.map fun v => v.category).sum ≤ 8) (hdg : decode cc pc = .ok (.invokestatic index, 3)) (hc1 : cells + mc ≤ R.cells) (hs1 : slots + ms ≤ R.slots)
    (kk : ∀ (u : Nat → Nat) (H1 : Heap) (locs1 : List Loc), va_P D vwCl (wr ++ w1 u) H1 → va_D A (wr ++ w1 u) → va_S A H0 H1 locs1 → W p l e R s m args below meth c H1 locs1 (cells + mc) (slots + ms) Q (F0 m (pc + 3) ls rest)) : W p l e R s m args below meth c H locs cells slots Q (F0 m pc ls st) := by
  have hFc := va_free hD hS hA isC hC
  refine va_callv (va_runS (As := As) (rest := rest) S (hM H.size) cw ⟨PcW.blind, fun U hU hW => ⟨rfl, by rw [hU], by rw [hU]; exact cl_P hP hC, NK.warm hW hN, (hD.sub isC hnC hC).weaken (fun _ _ _ _ => trivial)⟩⟩ rfl hn hsz hst (lv_room hroom) hdg ⟨hc1, hs1⟩) hS (fun q _ h => hFc q h) hFc (fun u t H1 locs1 ht hvm hw hB hz1 hk1 hS1 => ?_)
  obtain ⟨hP1, hD1⟩ := hB
  rw [ht] at hP1
  obtain ⟨hP2, hD2⟩ := va_join hP hD isC isR hC hR hnR hdis hk1 hFc hP1 hD1
  exact kk u H1 locs1 hP2 hD2 hS1
theorem cs_i {v : Int32} (S : CallFix p m c cc nL s args Ts own) (hM : ∀ sz, KI l y wy fr lo mc ms D cs sz As wc w1 v) (cw : CallB R s args own index y bytes maxL ret wy ({ frames := fr, cells := mc, slots := ms, locals := lo }) mc ms n ∧ (Cond.static y).before args s = true) (hN : NK D cs s) (hP : va_P D vwCl ws H) (hD : va_D A ws) (hS : va_S A H0 H locs) (hA : ∀ q, H0.size ≤ q → A q) (isC isR : List Nat) (hC : isC.map (fun i => ws[i]?) = wc.map some) (hR : isR.map (fun i => ws[i]?) = wr.map some) (hnC : va_nd isC = true) (hnR : va_nd isR = true) (hdis : ∀ i ∈ isR, i ∉ isC) (hst : st = As.reverse ++ rest) (hn : As.length = n) (hsz : ls.size = nL) (hroom : (rest.map fun v => v.category).sum ≤ 8) (hdg : decode cc pc = .ok (.invokestatic index, 3)) (hc1 : cells + mc ≤ R.cells) (hs1 : slots + ms ≤ R.slots)
    (kk : ∀ (u : Nat → Nat) (H1 : Heap) (locs1 : List Loc), va_P D vwCl (wr ++ w1 u) H1 → va_D A (wr ++ w1 u) → va_S A H0 H1 locs1 → W p l e R s m args below meth c H1 locs1 (cells + mc) (slots + ms) Q (F0 m (pc + 3) ls (.int v :: rest))) : W p l e R s m args below meth c H locs cells slots Q (F0 m pc ls st) := by
  have hFc := va_free hD hS hA isC hC
  refine va_calli (va_runS (As := As) (rest := rest) S (hM H.size) cw ⟨PcW.blind, fun U hU hW => ⟨rfl, by rw [hU], by rw [hU]; exact cl_P hP hC, NK.warm hW hN, (hD.sub isC hnC hC).weaken (fun _ _ _ _ => trivial)⟩⟩ rfl hn hsz hst (lv_room hroom) hdg ⟨hc1, hs1⟩) hS (fun q _ h => hFc q h) hFc (fun r u t H1 locs1 ht hvm hw hB hz1 hk1 hS1 => ?_)
  subst hw
  obtain ⟨hP1, hD1⟩ := hB
  rw [ht] at hP1
  obtain ⟨hP2, hD2⟩ := va_join hP hD isC isR hC hR hnR hdis hk1 hFc hP1 hD1
  exact kk u H1 locs1 hP2 hD2 hS1
theorem cs_l {v : Int64} (S : CallFix p m c cc nL s args Ts own) (hM : ∀ sz, KL l y wy fr lo mc ms D cs sz As wc w1 v) (cw : CallB R s args own index y bytes maxL ret wy ({ frames := fr, cells := mc, slots := ms, locals := lo }) mc ms n ∧ (Cond.static y).before args s = true) (hN : NK D cs s) (hP : va_P D vwCl ws H) (hD : va_D A ws) (hS : va_S A H0 H locs) (hA : ∀ q, H0.size ≤ q → A q) (isC isR : List Nat) (hC : isC.map (fun i => ws[i]?) = wc.map some) (hR : isR.map (fun i => ws[i]?) = wr.map some) (hnC : va_nd isC = true) (hnR : va_nd isR = true) (hdis : ∀ i ∈ isR, i ∉ isC) (hst : st = As.reverse ++ rest) (hn : As.length = n) (hsz : ls.size = nL) (hroom : (rest.map fun v => v.category).sum ≤ 8) (hdg : decode cc pc = .ok (.invokestatic index, 3)) (hc1 : cells + mc ≤ R.cells) (hs1 : slots + ms ≤ R.slots)
    (kk : ∀ (u : Nat → Nat) (H1 : Heap) (locs1 : List Loc), va_P D vwCl (wr ++ w1 u) H1 → va_D A (wr ++ w1 u) → va_S A H0 H1 locs1 → W p l e R s m args below meth c H1 locs1 (cells + mc) (slots + ms) Q (F0 m (pc + 3) ls (.long v :: rest))) : W p l e R s m args below meth c H locs cells slots Q (F0 m pc ls st) := by
  have hFc := va_free hD hS hA isC hC
  refine va_calll (va_runS (As := As) (rest := rest) S (hM H.size) cw ⟨PcW.blind, fun U hU hW => ⟨rfl, by rw [hU], by rw [hU]; exact cl_P hP hC, NK.warm hW hN, (hD.sub isC hnC hC).weaken (fun _ _ _ _ => trivial)⟩⟩ rfl hn hsz hst (lv_room hroom) hdg ⟨hc1, hs1⟩) hS (fun q _ h => hFc q h) hFc (fun r u t H1 locs1 ht hvm hw hB hz1 hk1 hS1 => ?_)
  subst hw
  obtain ⟨hP1, hD1⟩ := hB
  rw [ht] at hP1
  obtain ⟨hP2, hD2⟩ := va_join hP hD isC isR hC hR hnR hdis hk1 hFc hP1 hD1
  exact kk u H1 locs1 hP2 hD2 hS1
theorem cs_q {v : (Nat → Nat) → Option Nat} (S : CallFix p m c cc nL s args Ts own) (hM : ∀ sz, KQ l y wy fr lo mc ms D cs sz As wc w1 v) (cw : CallB R s args own index y bytes maxL ret wy ({ frames := fr, cells := mc, slots := ms, locals := lo }) mc ms n ∧ (Cond.static y).before args s = true) (hN : NK D cs s) (hP : va_P D vwCl ws H) (hD : va_D A ws) (hS : va_S A H0 H locs) (hA : ∀ q, H0.size ≤ q → A q) (isC isR : List Nat) (hC : isC.map (fun i => ws[i]?) = wc.map some) (hR : isR.map (fun i => ws[i]?) = wr.map some) (hnC : va_nd isC = true) (hnR : va_nd isR = true) (hdis : ∀ i ∈ isR, i ∉ isC) (hst : st = As.reverse ++ rest) (hn : As.length = n) (hsz : ls.size = nL) (hroom : (rest.map fun v => v.category).sum ≤ 8) (hdg : decode cc pc = .ok (.invokestatic index, 3)) (hc1 : cells + mc ≤ R.cells) (hs1 : slots + ms ≤ R.slots)
    (kk : ∀ (u : Nat → Nat) (H1 : Heap) (locs1 : List Loc), va_P D vwCl (wr ++ w1 u) H1 → va_D A (wr ++ w1 u) → va_S A H0 H1 locs1 → W p l e R s m args below meth c H1 locs1 (cells + mc) (slots + ms) Q (F0 m (pc + 3) ls (va_rf (v u) :: rest))) : W p l e R s m args below meth c H locs cells slots Q (F0 m pc ls st) := by
  have hFc := va_free hD hS hA isC hC
  refine va_callq (va_runS (As := As) (rest := rest) S (hM H.size) cw ⟨PcW.blind, fun U hU hW => ⟨rfl, by rw [hU], by rw [hU]; exact cl_P hP hC, NK.warm hW hN, (hD.sub isC hnC hC).weaken (fun _ _ _ _ => trivial)⟩⟩ rfl hn hsz hst (lv_room hroom) hdg ⟨hc1, hs1⟩) hS (fun q _ h => hFc q h) hFc (fun r u t H1 locs1 ht hvm hw hB hz1 hk1 hS1 => ?_)
  subst hw
  obtain ⟨hP1, hD1⟩ := hB
  rw [ht] at hP1
  obtain ⟨hP2, hD2⟩ := va_join hP hD isC isR hC hR hnR hdis hk1 hFc hP1 hD1
  exact kk u H1 locs1 hP2 hD2 hS1
theorem ci_v {b : Nat} (S : CallFix p m c cc nL s args Ts own) (hM : ∀ sz, KV l y wy fr lo mc ms D cs sz (.ref b :: As) wc w1) (cw : CallB R s args own index y bytes maxL none wy ({ frames := fr, cells := mc, slots := ms, locals := lo }) mc ms n ∧ y.name = "<init>" ∧ (Cond.instanceMethod y).before args s = true) (hN : NK D cs s) (hP : va_P D vwCl ws H) (hD : va_D A ws) (hS : va_S A H0 H locs) (hA : ∀ q, H0.size ≤ q → A q) (isC isR : List Nat) (hC : isC.map (fun i => ws[i]?) = wc.map some) (hR : isR.map (fun i => ws[i]?) = wr.map some) (hnC : va_nd isC = true) (hnR : va_nd isR = true) (hdis : ∀ i ∈ isR, i ∉ isC) (hst : st = As.reverse ++ .ref b :: rest) (hn : As.length = n) (hsz : ls.size = nL) (hroom : (rest.map fun v => v.category).sum ≤ 8) (hdg : decode cc pc = .ok (.invokespecial index, 3)) (hc1 : cells + mc ≤ R.cells) (hs1 : slots + ms ≤ R.slots)
    (kk : ∀ (u : Nat → Nat) (H1 : Heap) (locs1 : List Loc), va_P D vwCl (wr ++ w1 u) H1 → va_D A (wr ++ w1 u) → va_S A H0 H1 locs1 → W p l e R s m args below meth c H1 locs1 (cells + mc) (slots + ms) Q (F0 m (pc + 3) ls rest)) : W p l e R s m args below meth c H locs cells slots Q (F0 m pc ls st) := by
  have hFc := va_free hD hS hA isC hC
  refine va_callv (va_runI (As := As) (rest := rest) S (hM H.size) cw ⟨PcW.blind, fun U hU hW => ⟨rfl, by rw [hU], by rw [hU]; exact cl_P hP hC, NK.warm hW hN, (hD.sub isC hnC hC).weaken (fun _ _ _ _ => trivial)⟩⟩ rfl hn hsz hst (lv_room hroom) hdg ⟨hc1, hs1⟩) hS (fun q _ h => hFc q h) hFc (fun u t H1 locs1 ht hvm hw hB hz1 hk1 hS1 => ?_)
  obtain ⟨hP1, hD1⟩ := hB
  rw [ht] at hP1
  obtain ⟨hP2, hD2⟩ := va_join hP hD isC isR hC hR hnR hdis hk1 hFc hP1 hD1
  exact kk u H1 locs1 hP2 hD2 hS1
theorem cn_v {b : Nat} {host : String} (S : CallFix p m c cc nL s args Ts own) (hM : ∀ sz, KV l y wy fr lo mc ms D cs sz (.ref b :: As) wc w1) (cw : va_CN R s args own index y host bytes maxL none wy ({ frames := fr, cells := mc, slots := ms, locals := lo }) mc ms n ∧ y.name = "<init>" ∧ (Cond.instanceMethod y).before args s = true) (hN : NK D cs s) (hP : va_P D vwCl ws H) (hD : va_D A ws) (hS : va_S A H0 H locs) (hA : ∀ q, H0.size ≤ q → A q) (isC isR : List Nat) (hC : isC.map (fun i => ws[i]?) = wc.map some) (hR : isR.map (fun i => ws[i]?) = wr.map some) (hnC : va_nd isC = true) (hnR : va_nd isR = true) (hdis : ∀ i ∈ isR, i ∉ isC) (hst : st = As.reverse ++ .ref b :: rest) (hn : As.length = n) (hsz : ls.size = nL) (hroom : (rest.map fun v => v.category).sum ≤ 8) (hdg : decode cc pc = .ok (.invokespecial index, 3)) (hc1 : cells + mc ≤ R.cells) (hs1 : slots + ms ≤ R.slots)
    (kk : ∀ (u : Nat → Nat) (H1 : Heap) (locs1 : List Loc), va_P D vwCl (wr ++ w1 u) H1 → va_D A (wr ++ w1 u) → va_S A H0 H1 locs1 → W p l e R s m args below meth c H1 locs1 (cells + mc) (slots + ms) Q (F0 m (pc + 3) ls rest)) : W p l e R s m args below meth c H locs cells slots Q (F0 m pc ls st) := by
  have hFc := va_free hD hS hA isC hC
  refine va_callv (va_runIN (As := As) (rest := rest) S (hM H.size) cw ⟨PcW.blind, fun U hU hW => ⟨rfl, by rw [hU], by rw [hU]; exact cl_P hP hC, NK.warm hW hN, (hD.sub isC hnC hC).weaken (fun _ _ _ _ => trivial)⟩⟩ rfl hn hsz hst (lv_room hroom) hdg ⟨hc1, hs1⟩) hS (fun q _ h => hFc q h) hFc (fun u t H1 locs1 ht hvm hw hB hz1 hk1 hS1 => ?_)
  obtain ⟨hP1, hD1⟩ := hB
  rw [ht] at hP1
  obtain ⟨hP2, hD2⟩ := va_join hP hD isC isR hC hR hnR hdis hk1 hFc hP1 hD1
  exact kk u H1 locs1 hP2 hD2 hS1
end CL
section EN
variable {p : Program} {l : Launch} {e : Env} {R : Room} {s : State} {m : MethodId} {args : Array Value} {below : List Frame} {meth : Method} {c : Code} {H : Heap} {locs : List Loc} {cells slots mc ms : Nat}
variable {cc : ByteArray} {pc : Nat} {ls : Array Slot} {D : va_G} {A : Nat → Prop} {w1 : (Nat → Nat) → va_W}
theorem en_v (u : Nat → Nat) (hx : p.tables.exec = Jvm.exec) (hb : c.code = cc) (hr : meth.sig.returnType = none) (hlocks : meth.locks = false) (hP : va_P D vwCl (w1 u) H) (hD : va_D A (w1 u)) (hS : va_S A s.heap H locs) (hc1 : cells ≤ mc) (hs1 : slots ≤ ms) (hdg : decode cc pc = .ok (.return_, 1)) : W p l e R s m args below meth c H locs cells slots (MQ below (va_Qv (fun _ : Nat → Nat => True) (QcW D A w1) A) args s mc ms A) (F0 m pc ls []) := by
  refine W.widen (k := mc) (n := ms) hc1 hs1 ?_
  exact W.vret hx hb hr (fun t ht hW => ⟨⟨u, rfl, trivial, by rw [ht]; exact hP, hD⟩, hS.F ht⟩) hS.2.2 hdg
theorem en_i (u : Nat → Nat) {v x : Int32} {ty : FieldType} (hx : p.tables.exec = Jvm.exec) (hb : c.code = cc) (hr : meth.sig.returnType = some ty) (hlocks : meth.locks = false) (hn : narrow ty (.int x) = .int x) (hv : x = v) (hP : va_P D vwCl (w1 u) H) (hD : va_D A (w1 u)) (hS : va_S A s.heap H locs) (hc1 : cells ≤ mc) (hs1 : slots ≤ ms) (hdg : decode cc pc = .ok (.ireturn, 1)) : W p l e R s m args below meth c H locs cells slots (MQ below (va_Qi (fun (r : Int32) (_ : Nat → Nat) => r = v) (QcW D A w1) A) args s mc ms A) (F0 m pc ls [.int x]) := by
  refine W.widen (k := mc) (n := ms) hc1 hs1 ?_
  exact W.zret hx hb hr hn (fun t ht hW => ⟨⟨x, u, rfl, hv, by rw [ht]; exact hP, hD⟩, hS.F ht⟩) hS.2.2 hdg
theorem en_l (u : Nat → Nat) {v x : Int64} (hx : p.tables.exec = Jvm.exec) (hb : c.code = cc) (hr : meth.sig.returnType = some .long) (hlocks : meth.locks = false) (hv : x = v) (hP : va_P D vwCl (w1 u) H) (hD : va_D A (w1 u)) (hS : va_S A s.heap H locs) (hc1 : cells ≤ mc) (hs1 : slots ≤ ms) (hdg : decode cc pc = .ok (.lreturn, 1)) : W p l e R s m args below meth c H locs cells slots (MQ below (va_Ql (fun (r : Int64) (_ : Nat → Nat) => r = v) (QcW D A w1) A) args s mc ms A) (F0 m pc ls [.long x]) := by
  refine W.widen (k := mc) (n := ms) hc1 hs1 ?_
  exact W.lret hx hb hr (fun t ht hW => ⟨⟨x, u, rfl, hv, by rw [ht]; exact hP, hD⟩, hS.F ht⟩) hS.2.2 hdg
theorem en_q (u : Nat → Nat) {v : (Nat → Nat) → Option Nat} {x : Option Nat} {rt : FieldType} (hx : p.tables.exec = Jvm.exec) (hb : c.code = cc) (hr : meth.sig.returnType = some rt) (hlocks : meth.locks = false) (hrt : (∃ n, rt = .object n) ∨ ∃ t, rt = .array t) (hv : x = v u) (hP : va_P D vwCl (w1 u) H) (hD : va_D A (w1 u)) (hS : va_S A s.heap H locs) (hc1 : cells ≤ mc) (hs1 : slots ≤ ms) (hdg : decode cc pc = .ok (.areturn, 1)) : W p l e R s m args below meth c H locs cells slots (MQ below (va_Qq (fun (r : Option Nat) (u : Nat → Nat) => r = v u) (QcW D A w1) A) args s mc ms A) (F0 m pc ls [va_rf x]) := by
  refine W.widen (k := mc) (n := ms) hc1 hs1 ?_
  exact W.aret hx hb hr hrt (by cases x with | none => exact Or.inl rfl | some a => exact Or.inr ⟨a, rfl⟩) (fun t ht hW => ⟨⟨x, u, rfl, hv, by rw [ht]; exact hP, hD⟩, hS.F ht⟩) hS.2.2 hdg
end EN
section AR
variable {p : Program} {l : Launch} {e : Env} {R : Room} {s : State} {m : MethodId} {args : Array Value} {below : List Frame} {meth : Method} {c : Code} {H : Heap} {locs : List Loc} {cells slots : Nat} {Q : State → Prop}
variable {cc : ByteArray} {pc : Nat} {ls : Array Slot} {rest : List Value} {D : va_G} {cl : List vw_C} {A : Nat → Prop} {a : Nat} {tys : List (ClassId × FieldType)} {ws : va_W} {H0 : Heap}
/-- aaload from an array of arrays -/
theorem va_alda (hexec : p.tables.exec = Jvm.exec) (hb : c.code = cc) (hK : va_K D cl tys s) (hP : va_P D cl ws H) (q0 t0 : Nat) {cA : ClassId} {ty : FieldType} {n : Nat} {f : Nat → Option Nat} (ha : ws[q0]? = some (a, .inl (cA, n, .inr (.inr (.inr (.inr f)))))) (ht : tys[t0]? = some (cA, .array ty)) {i : Int32} (hin : vp_in i n) (hdg : decode cc pc = .ok (.aaload, 1))
    (kk : W p l e R s m args below meth c H locs cells slots Q (F0 m (pc + 1) ls (va_rf (f i.toNatClampNeg) :: rest))) : W p l e R s m args below meth c H locs cells slots Q (F0 m pc ls (.int i :: .ref a :: rest)) := by
  have hlt : i.toNatClampNeg < n := Nat.not_le.mp fun q => hin (Or.inr q)
  exact W.aald (v := va_rf (f i.toNatClampNeg)) (ty := .array ty) hexec hb (hP q0 _ ha) ((hK.2 t0 _ ht).1 n (fun j => va_rf (f j))) rfl (fun q => by cases q) (by show ¬ (i < 0 ∨ (arrV _ _ _).slots.size ≤ _); rw [arrV_size]; exact hin) (by show (arrV _ _ _).slots[_]? = _; rw [arrV_read _ _ hlt]) rfl rfl hdg kk
/-- a reference on the stack gets its form -/
theorem tp_r {x v : Value} (h : x = v) (k : W p l e R s m args below meth c H locs cells slots Q (F0 m pc ls (v :: rest))) : W p l e R s m args below meth c H locs cells slots Q (F0 m pc ls (x :: rest)) := by
  rw [h]; exact k
/-- two ids of one array class are one -/
theorem ra_one {U : State} {c1 c2 : ClassId} {ty : FieldType} (h1 : va_RA U c1 ty) (h2 : va_RA U c2 ty) : c1 = c2 := by
  cases ty with
  | object C =>
    obtain ⟨_, _, _, _, _, e1⟩ := h1
    obtain ⟨_, _, _, _, _, e2⟩ := h2
    exact Option.some.inj (e1.symm.trans e2)
  | _ => exact Option.some.inj (Eq.trans (Eq.symm h1) h2)
/-- newarray, its class among those known -/
theorem na_i {cs : Nat → ClassId} {atype : ArrayType} {ty : FieldType} (k : Nat) (hN : NK D cs s) (hk : (TY cs)[k]? = some (cs k, ty)) (hexec : p.tables.exec = Jvm.exec) (hb : c.code = cc) (harr : (Cond.arrayClass (newarray.typeOf atype)).before args s = true) (hty : newarray.typeOf atype = ty) (hP : va_P D vwCl ws H) (hD : va_D A ws) (hS : va_S A H0 H locs) (hA : ∀ q, H0.size ≤ q → A q)
    {n : Int32} {N' : Nat} {a0 : vp_A} (ha : ∀ cA : ClassId, vp_cell cA a0 = arrV cA N' (fun _ => defaultValue ty)) (hn : ¬ n < 0) (hN' : n.toNatClampNeg = N') (hbytes : N' * componentBytes ty ≤ 536870912) (hcells : cells + 1 ≤ R.cells) (hslots : slots + N' ≤ R.slots) (hdg : decode cc pc = .ok (.newarray atype, 2))
    (kk : ∀ (q : Nat) (H1 : Heap), va_P D vwCl (ws ++ [(q, .inl (cs k, a0))]) H1 → va_D A (ws ++ [(q, .inl (cs k, a0))]) → va_S A H0 H1 locs →
      W p l e R s m args below meth c H1 locs (cells + 1) (slots + N') Q (F0 m (pc + 2) ls (.ref q :: rest))) : W p l e R s m args below meth c H locs cells slots Q (F0 m pc ls (.int n :: rest)) := by
  refine va_newa (tys := TY cs) hexec hb harr hty hN.1 hP hD hS hA ha hn hN' hbytes hcells hslots hdg (fun q cA H1 hK1 hP1 hD1 hS1 => ?_)
  have e : cA = cs k := ra_one (hK1.2 7 (cA, ty) rfl).2 (hN.1.2 k _ hk).2
  subst e
  exact kk q H1 hP1 hD1 hS1
theorem na_q {cs : Nat → ClassId} {C own : String} {index : Nat} (k : Nat) (hN : NK D cs s) (hk : (TY cs)[k]? = some (cs k, .object C)) (hexec : p.tables.exec = Jvm.exec) (hb : c.code = cc) (hown : s.vm.findClass own = some m.cls) (hclink : (Cond.classLink own index C).before args s = true) (hover : va_AO C s) (hP : va_P D vwCl ws H) (hD : va_D A ws) (hS : va_S A H0 H locs) (hA : ∀ q, H0.size ≤ q → A q)
    {n : Int32} {N' : Nat} (hn : ¬ n < 0) (hN' : n.toNatClampNeg = N') (hbytes : N' * 4 ≤ 536870912) (hcells : cells + 1 ≤ R.cells) (hslots : slots + N' ≤ R.slots) (hdg : decode cc pc = .ok (.anewarray index, 3))
    (kk : ∀ (q : Nat) (H1 : Heap), va_P D vwCl (ws ++ [(q, .inl (cs k, N', .inr (.inr (.inr (.inr (fun _ => none))))))]) H1 → va_D A (ws ++ [(q, .inl (cs k, N', .inr (.inr (.inr (.inr (fun _ => none))))))]) → va_S A H0 H1 locs →
      W p l e R s m args below meth c H1 locs (cells + 1) (slots + N') Q (F0 m (pc + 3) ls (.ref q :: rest))) : W p l e R s m args below meth c H locs cells slots Q (F0 m pc ls (.int n :: rest)) := by
  refine va_newq (tys := TY cs) hexec hb hown hclink hover hN.1 hP hD hS hA hn hN' hbytes hcells hslots hdg (fun q cA H1 hK1 hP1 hD1 hS1 => ?_)
  have e : cA = cs k := ra_one (hK1.2 7 (cA, .object C) rfl).2 (hN.1.2 k _ hk).2
  subst e
  exact kk q H1 hP1 hD1 hS1
end AR
