abbrev TY (cs : Nat → ClassId) : List (ClassId × FieldType) := [(cs 0, .int), (cs 1, .byte), (cs 2, .boolean), (cs 3, .long), (cs 4, .object RX3), (cs 5, .object RX7), (cs 6, .array .int)]
def nF : List (String × Nat × String × String × String × String) := [("OneBeat", 42, "OneBeat$Reader", "stored", "I", "OneBeat"), ("OneBeat", 59, "OneBeat$Reader", "errorCode", "I", "OneBeat"), ("OneBeat", 56, "OneBeat$Reader", "errorStart", "I", "OneBeat"), ("OneBeat", 100, "OneBeat$Mail", "total", "I", "OneBeat"), ("OneBeat$World", 172, "OneBeat$Mail", "total", "I", "OneBeat"), ("OneBeat$World", 285, "OneBeat$Proposal", "song", "I", "OneBeat"), ("OneBeat", 190, "OneBeat$Proposal", "beat", "I", "OneBeat"), ("OneBeat$World", 214, "OneBeat$Proposal", "beat", "I", "OneBeat"), ("OneBeat$World", 236, "OneBeat$Proposal", "deadline", "I", "OneBeat"), ("OneBeat$World", 273, "OneBeat$Proposal", "sender", "I", "OneBeat"), ("OneBeat$World", 276, "OneBeat$Proposal", "votes", "I", "OneBeat"), ("OneBeat", 139, "OneBeat$Proposal", "outcome", "I", "OneBeat"), ("OneBeat$World", 204, "OneBeat$Proposal", "outcome", "I", "OneBeat"), ("OneBeat$Mail", 40, "OneBeat$Letter", "kind", "I", "OneBeat"), ("OneBeat$World", 255, "OneBeat$Letter", "kind", "I", "OneBeat"), ("OneBeat$Mail", 45, "OneBeat$Letter", "from", "I", "OneBeat"), ("OneBeat$World", 258, "OneBeat$Letter", "from", "I", "OneBeat"), ("OneBeat$Mail", 48, "OneBeat$Letter", "to", "I", "OneBeat"), ("OneBeat$World", 252, "OneBeat$Letter", "to", "I", "OneBeat"), ("OneBeat$Mail", 51, "OneBeat$Letter", "number", "I", "OneBeat"), ("OneBeat$World", 299, "OneBeat$Letter", "number", "I", "OneBeat"), ("OneBeat$Mail", 54, "OneBeat$Letter", "proposal", "I", "OneBeat"), ("OneBeat$World", 267, "OneBeat$Letter", "proposal", "I", "OneBeat"), ("OneBeat$Mail", 57, "OneBeat$Letter", "first", "I", "OneBeat"), ("OneBeat$World", 261, "OneBeat$Letter", "first", "I", "OneBeat"), ("OneBeat$Mail", 60, "OneBeat$Letter", "second", "I", "OneBeat"), ("OneBeat$World", 264, "OneBeat$Letter", "second", "I", "OneBeat"), ("OneBeat$World", 129, "OneBeat$Player", "isUp", "Z", "OneBeat"), ("OneBeat", 163, "OneBeat$Player", "isUp", "Z", "OneBeat"), ("OneBeat$World", 113, "OneBeat$Player", "guess", "I", "OneBeat"), ("OneBeat$World", 137, "OneBeat$Player", "song", "I", "OneBeat"), ("OneBeat$World", 180, "OneBeat$Player", "plan", "I", "OneBeat"), ("OneBeat$World", 183, "OneBeat$Player", "planNumber", "I", "OneBeat"), ("OneBeat$World", 289, "OneBeat$Player", "planBeat", "I", "OneBeat"), ("OneBeat$World", 186, "OneBeat$Player", "changes", "I", "OneBeat"), ("OneBeat$World", 187, "OneBeat$Player", "late", "I", "OneBeat"), ("OneBeat$World", 188, "OneBeat$Player", "changedAt", "I", "OneBeat"), ("OneBeat", 69, "OneBeat$Setup", "players", "I", "OneBeat"), ("OneBeat$Reader", 130, "OneBeat$Setup", "players", "I", "OneBeat"), ("OneBeat$World", 127, "OneBeat$Setup", "players", "I", "OneBeat"), ("OneBeat$Reader", 98, "OneBeat$Setup", "need", "I", "OneBeat"), ("OneBeat$World", 282, "OneBeat$Setup", "need", "I", "OneBeat"), ("OneBeat$Reader", 105, "OneBeat$Setup", "patience", "I", "OneBeat"), ("OneBeat$World", 207, "OneBeat$Setup", "patience", "I", "OneBeat"), ("OneBeat$Reader", 112, "OneBeat$Setup", "margin", "LOneBeat$Formula;", "OneBeat"), ("OneBeat$World", 152, "OneBeat$Setup", "margin", "LOneBeat$Formula;", "OneBeat"), ("OneBeat", 155, "OneBeat$World", "setup", "LOneBeat$Setup;", "OneBeat"), ("OneBeat", 96, "OneBeat$World", "mail", "LOneBeat$Mail;", "OneBeat"), ("OneBeat", 118, "OneBeat$World", "latest", "LOneBeat$Proposal;", "OneBeat"), ("OneBeat", 193, "OneBeat$World", "conductor", "I", "OneBeat"), ("OneBeat", 113, "OneBeat$World", "made", "I", "OneBeat"), ("OneBeat", 203, "OneBeat$World", "changes", "I", "OneBeat"), ("OneBeat", 145, "OneBeat$World", "late", "I", "OneBeat")]
def nM : List (String × Nat × MethodName × String) := [("OneBeat", 9, ⟨"OneBeat$Reader", "<init>", "()V"⟩, "OneBeat"), ("OneBeat$World", 19, ⟨"OneBeat$Mail", "<init>", "()V"⟩, "OneBeat"), ("OneBeat$World", 26, ⟨"OneBeat$Proposal", "<init>", "()V"⟩, "OneBeat"), ("OneBeat$World", 33, ⟨"OneBeat$Letter", "<init>", "()V"⟩, "OneBeat"), ("OneBeat$World", 41, ⟨"OneBeat$Player", "<init>", "()V"⟩, "OneBeat")]
def nS : List (String × Nat × String) := [("OneBeat", 47, "length is 0 to the length of the buffer"), ("OneBeat$Reader", 47, "players"), ("OneBeat$Reader", 83, "clock"), ("OneBeat$Reader", 91, "link"), ("OneBeat$Reader", 96, "need"), ("OneBeat$Reader", 103, "patience"), ("OneBeat$Reader", 110, "margin"), ("OneBeat$Reader", 169, "delay"), ("OneBeat$Reader", 171, "up"), ("OneBeat$Reader", 173, "song"), ("OneBeat", 235, "what is out of range"), ("OneBeat", 232, "no such player"), ("OneBeat", 107, "no such message is on its way"), ("OneBeat", 116, "there was no proposal"), ("OneBeat", 180, "song is 0 to 99"), ("OneBeat", 184, "the conductor is down, or a proposal is open"), ("OneBeat", 196, "the player is down, or the conductor"), ("OneBeat", 201, "ticks is 1 to 50"), ("OneBeat", 213, "there is no such link"), ("OneBeatModel", 112, "players"), ("OneBeatModel", 148, "clock"), ("OneBeatModel", 153, "link"), ("OneBeatModel", 158, "need"), ("OneBeatModel", 163, "patience"), ("OneBeatModel", 165, "margin"), ("OneBeatModel", 118, "delay"), ("OneBeatModel", 120, "up"), ("OneBeatModel", 122, "song")]
def nE : List String := ["java/lang/IllegalArgumentException", "java/lang/IllegalStateException", "java/lang/IndexOutOfBoundsException", "java/util/NoSuchElementException"]
def nC : List (String × String) := [("java/lang/IndexOutOfBoundsException", "java/lang/IllegalArgumentException"), ("java/util/NoSuchElementException", "java/lang/IllegalArgumentException"), ("java/lang/IllegalStateException", "java/lang/IllegalArgumentException"), ("java/lang/IllegalArgumentException", "java/lang/IndexOutOfBoundsException"), ("java/util/NoSuchElementException", "java/lang/IndexOutOfBoundsException"), ("java/lang/IllegalStateException", "java/lang/IndexOutOfBoundsException"), ("java/lang/IllegalArgumentException", "java/util/NoSuchElementException"), ("java/lang/IndexOutOfBoundsException", "java/util/NoSuchElementException"), ("java/lang/IllegalStateException", "java/util/NoSuchElementException"), ("java/lang/IllegalArgumentException", "java/lang/IllegalStateException"), ("java/lang/IndexOutOfBoundsException", "java/lang/IllegalStateException"), ("java/util/NoSuchElementException", "java/lang/IllegalStateException")]
/-- what every contract takes of the tables: the classes, the arrays' classes, the links between nest mates -/
def NK (D : va_G) (cs : Nat → ClassId) (U : State) : Prop := va_K D vwCl (TY cs) U ∧ (∀ q ∈ nF, va_Nw (.fieldLinkNest q.1 q.2.1 q.2.2.1 q.2.2.2.1 q.2.2.2.2.1 q.2.2.2.2.2) U) ∧ (∀ q ∈ nM, va_Nw (.methodLinkNest q.1 q.2.1 q.2.2.1 q.2.2.2) U) ∧ va_AO RX3 U ∧ va_AO RX7 U ∧ va_AOA .int U ∧ (∀ i q, nS[i]? = some q → vk_R q.1 q.2.1 q.2.2 (cs (100 + i)) U) ∧ (∀ q ∈ nE, va_Nw (.castable q q) U) ∧ (∀ q ∈ nC, va_Nc q.1 q.2 U) ∧ va_Nw (.castable "[I" "java/lang/Cloneable") U
theorem NK.warm {D : va_G} {cs : Nat → ClassId} {s U : State} (hW : s.WarmedH U.vm) (h : NK D cs s) : NK D cs U :=
  ⟨va_K.moved hW.alike h.1, fun q hq => va_Nw.warmF hW (h.2.1 q hq), fun q hq => va_Nw.warmM hW (h.2.2.1 q hq), va_AO.moved hW.alike h.2.2.2.1, va_AO.moved hW.alike h.2.2.2.2.1, va_AOA.moved hW.alike h.2.2.2.2.2.1, fun i q hq => vk_R.warm hW (h.2.2.2.2.2.2.1 i q hq), fun q hq => va_Nw.warmC hW (h.2.2.2.2.2.2.2.1 q hq), fun q hq => va_Nc.moved hW.alike (h.2.2.2.2.2.2.2.2.1 q hq), va_Nw.warmC hW h.2.2.2.2.2.2.2.2.2⟩
theorem NK.same {D : va_G} {cs : Nat → ClassId} {u U : State} (e : u.vm = U.vm) (h : NK D cs u) : NK D cs U :=
  ⟨va_K.moved (by rw [e]; exact Vm.Alike.refl _) h.1, fun q hq => va_Nw.same rfl e (h.2.1 q hq), fun q hq => va_Nw.same rfl e (h.2.2.1 q hq), va_AO.moved (by rw [e]; exact Vm.Alike.refl _) h.2.2.2.1, va_AO.moved (by rw [e]; exact Vm.Alike.refl _) h.2.2.2.2.1, va_AOA.moved (by rw [e]; exact Vm.Alike.refl _) h.2.2.2.2.2.1, fun i q hq => vk_R.same e.symm (h.2.2.2.2.2.2.1 i q hq), fun q hq => va_Nw.same rfl e (h.2.2.2.2.2.2.2.1 q hq), fun q hq => va_Nc.moved (by rw [e]; exact Vm.Alike.refl _) (h.2.2.2.2.2.2.2.2.1 q hq), va_Nw.same rfl e h.2.2.2.2.2.2.2.2.2⟩
theorem NK.f {D : va_G} {cs : Nat → ClassId} {s : State} {args : Array Value} (h : NK D cs s) {a : String} {i : Nat} {b n d o : String} (k : Nat) (hk : nF[k]? = some (a, i, b, n, d, o)) : (Cond.fieldLinkNest a i b n d o).before args s = true := va_Nw.use rfl (h.2.1 _ (List.mem_of_getElem? hk))
theorem NK.s {D : va_G} {cs : Nat → ClassId} {s : State} (h : NK D cs s) {a t : String} {i : Nat} (k : Nat) (hk : nS[k]? = some (a, i, t)) : vk_R a i t (cs (100 + k)) s := h.2.2.2.2.2.2.1 k _ hk
theorem NK.m {D : va_G} {cs : Nat → ClassId} {s : State} (h : NK D cs s) {a : String} {i : Nat} {y : MethodName} {o : String} (k : Nat) (hk : nM[k]? = some (a, i, y, o)) : va_Nw (.methodLinkNest a i y o) s := h.2.2.1 _ (List.mem_of_getElem? hk)
/-! ===== contracts over a heap that is a name: H0 before, Qo of the answer and the heap behind; what lies below B0 is left alone ===== -/
abbrev Qv (B : Heap → Prop) : Option Value → Heap → Prop := fun v H => v = none ∧ B H
abbrev Qi (B : Int32 → Heap → Prop) : Option Value → Heap → Prop := fun v H => ∃ r : Int32, v = some (.int r) ∧ B r H
abbrev Ql (B : Int64 → Heap → Prop) : Option Value → Heap → Prop := fun v H => ∃ r : Int64, v = some (.long r) ∧ B r H
abbrev Qd (B : UInt64 → Heap → Prop) : Option Value → Heap → Prop := fun v H => ∃ r : UInt64, v = some (.double r) ∧ B r H
abbrev Qr (B : Nat → Heap → Prop) : Option Value → Heap → Prop := fun v H => ∃ r : Nat, v = some (.ref r) ∧ B r H
abbrev Qn (B : Value → Heap → Prop) : Option Value → Heap → Prop := fun v H => ∃ r : Value, v = some r ∧ B r H
abbrev QcH (Qo : Option Value → Heap → Prop) : Array Value → State → Outcome → State → Prop := fun _ _ oc t => ∃ v, oc = .returned v ∧ Qo v t.heap
/-- the two statics that a throw reads, outside of A -/
def ZX (A : Nat → Prop) (U : State) (H : Heap) : Prop := vx_Zq Bundle.tN "UNASSIGNED_STACK" Bundle.steD A U H ∧ vx_Zq Bundle.tN "SUPPRESSED_SENTINEL" Bundle.listD A U H
/-- a constant text at sa, its n bytes by9 at va, outside of A -/
def SX (sa va n : Nat) (by9 : Nat → Int32) (A : Nat → Prop) (U : State) (H : Heap) : Prop := va_O "java/lang/String" sa A U H ∧ va_OF "java/lang/String" "coder" "B" (.int 0) sa A U H ∧ va_OF "java/lang/String" "value" "[B" (.ref va) sa A U H ∧ ∃ f : Nat → Value, (∀ j, j < n → f j = .int (by9 j)) ∧ va_T .byte va n f A U H
theorem SX.moved {sa va n : Nat} {by9 : Nat → Int32} {A : Nat → Prop} {u U : State} {H : Heap} (hvm : u.vm.Alike U.vm) (h : SX sa va n by9 A u H) : SX sa va n by9 A U H := by
  obtain ⟨h1, h2, h3, f, h4, h5⟩ := h
  exact ⟨va_O.moved hvm h1, va_OF.moved hvm h2, va_OF.moved hvm h3, f, h4, va_T.moved hvm h5⟩
theorem SX.kept {sa va n : Nat} {by9 : Nat → Int32} {A : Nat → Prop} {U : State} {H H1 : Heap} (h : SX sa va n by9 A U H) (hq : ∀ a : Nat, a < H.size → ¬ A a → H1[a]? = H[a]?) : SX sa va n by9 A U H1 := by
  obtain ⟨h1, h2, h3, f, h4, h5⟩ := h
  exact ⟨h1.kept hq, h2.kept hq, h3.kept hq, f, h4, h5.kept hq⟩
def nW : List Nat := [1, 2, 3, 4, 5, 6, 7, 8, 9, 19, 20, 21, 22, 23, 24, 25, 26, 27]
def nT (i : Nat) : Nat := ((nS[i]?).map (fun q => q.2.2.length)).getD 0
/-- the word i: its letters -/
def wc (i k : Nat) : Nat := (((nS[i]?).bind (fun q => q.2.2.toList[k]?)).map Char.toNat).getD 0
def nB (i k : Nat) : Int32 := nI (wc i k)
/-- what lies below B0 and is read: the statics of a throw, the words -/
def EX (cs : Nat → ClassId) (B0 : Nat) (U : State) (H : Heap) : Prop := ZX (fun q => B0 ≤ q) U H ∧ (∀ i ∈ nW, SX (cs (100 + i)) (cs (200 + i)) (nT i) (nB i) (fun q => B0 ≤ q) U H) ∧ va_Z "java/lang/String" "COMPACT_STRINGS" "Z" (.int 1) (fun q => B0 ≤ q) U H ∧ va_Zq "jdk/internal/util/Preconditions" "SIOOBE_FORMATTER" "Ljava/util/function/BiFunction;" (fun q => B0 ≤ q) U H
theorem EX.moved {cs : Nat → ClassId} {B0 : Nat} {u U : State} {H : Heap} (hvm : u.vm.Alike U.vm) (h : EX cs B0 u H) : EX cs B0 U H :=
  ⟨⟨vx_Zq.moved hvm h.1.1, vx_Zq.moved hvm h.1.2⟩, fun i hi => (h.2.1 i hi).moved hvm, va_Z.moved hvm h.2.2.1, va_Zq.moved hvm h.2.2.2⟩
theorem EX.kept {cs : Nat → ClassId} {B0 : Nat} {U : State} {H H1 : Heap} (h : EX cs B0 U H) (hq : ∀ a : Nat, a < H.size → a < B0 → H1[a]? = H[a]?) : EX cs B0 U H1 :=
  have hq' : ∀ a : Nat, a < H.size → ¬ (fun q => B0 ≤ q) a → H1[a]? = H[a]? := fun a h1 h2 => hq a h1 (Nat.not_le.mp h2)
  ⟨⟨h.1.1.kept hq', h.1.2.kept hq'⟩, fun i hi => (h.2.1 i hi).kept hq', h.2.2.1.kept hq', h.2.2.2.kept hq'⟩
theorem EX.at {cs : Nat → ClassId} {B0 : Nat} {s U : State} {H : Heap} (h : EX cs B0 s s.heap) (hq : ∀ a : Nat, a < s.heap.size → a < B0 → H[a]? = s.heap[a]?) (hU : U.heap = H) (hW : s.WarmedH U.vm) : EX cs B0 U U.heap := by
  rw [hU]
  exact (h.kept hq).moved hW.alike
def KC (l : Launch) (y : MethodName) (wy : List Cond) (fr lo mc ms : Nat) (D : va_G) (cs : Nat → ClassId) (B0 : Nat) (H0 : Heap) (av : List Value) (Qo : Option Value → Heap → Prop) : Prop :=
  Met l y wy ({ frames := fr, cells := mc, slots := ms, locals := lo }) (va_Pc av (fun U => U.heap = H0 ∧ NK D cs U ∧ EX cs B0 U U.heap)) (QcH Qo) mc ms (fun q => B0 ≤ q)
theorem pcH_blind {D : va_G} {cs : Nat → ClassId} {B0 : Nat} {H0 : Heap} {av : List Value} : FrameBlind (va_Pc av (fun U => U.heap = H0 ∧ NK D cs U ∧ EX cs B0 U U.heap)) :=
  fun _ U _ _ q => ⟨q.1, q.2.1, NK.same rfl q.2.2.1, EX.moved (Vm.Alike.refl U.vm) q.2.2.2⟩
theorem KC.of {l : Launch} {y : MethodName} {wy wy' : List Cond} {fr lo mc ms : Nat} {D : va_G} {cs : Nat → ClassId} {B0 : Nat} {H0 : Heap} {av : List Value} {Qo : Option Value → Heap → Prop} (cc : ByteArray) (maxL : Nat) (ret : Option FieldType) (hy : plainName y.cls = true) (hw : wy = Cond.code y cc maxL ret :: wy') (hn : (lg_sl av).length ≤ maxL)
    (body : ∀ (p : Program) (e : Env) (s : State) (m : MethodId) (below : List Frame) (meth : Method) (c : Code) (ls : Array Slot), p.tables.exec = Jvm.exec → c.code = cc → meth.sig.returnType = ret → c.maxLocals = maxL → s.vm.findClass y.cls = some m.cls → (∀ w ∈ wy, w.before av.toArray s = true) → meth.locks = false → meth.name = y.name → NK D cs s → EX cs B0 s s.heap → s.heap = H0 → lv_has ls maxL (lv_args 0 av) →
      W p l e ({ frames := fr, cells := mc, slots := ms, locals := lo } : Room) s m av.toArray below meth c H0 [] 0 0 (MQ below (QcH Qo) av.toArray s mc ms (fun q => B0 ≤ q)) (F0 m 0 ls [])) : KC l y wy fr lo mc ms D cs B0 H0 av Qo := by
  refine Met.ofW (cc := cc) (maxL := maxL) (ret := ret) hy hw ?_
  intro p e s m args below meth c s₁ B hml hv
  obtain ⟨rfl, hH, hN, hE⟩ := hv
  have hts := atoms_spec (ws := wy) B.pre
  have hown : s.vm.findClass y.cls = some m.cls := findClass_of_methodNamed B.named
  have hin : meth.name = y.name := (name_of_methodNamed B.named B.method).1
  have hl := lv_entry av (n := maxL) hn
  rw [lg_entry_eq]
  generalize (lg_sl av ++ List.replicate (maxL - (lg_sl av).length) Slot.unset).toArray = ls at hl ⊢
  rw [hH]
  exact body p e s m below meth c ls B.exec B.bytes B.returns hml hown hts B.notSynchronized hin hN hE hH hl
/-- what is old but for the places named by locs is as it was: of a call's end -/
abbrev OkL (B0 : Nat) (locs : List Loc) : Prop := ∀ q ∈ locs, B0 ≤ q.base
theorem OkL.app {B0 : Nat} {a b : List Loc} (h : OkL B0 a) (h2 : OkL B0 b) : OkL B0 (a ++ b) := fun q hq => (List.mem_append.mp hq).elim (h q) (h2 q)
theorem OkL.nil {B0 : Nat} : OkL B0 [] := fun _ h => by cases h
/-- the slots of the cells from place n on -/
def nSl (n : Nat) (H : Heap) : Nat := ((H.toList.drop n).map (·.slots.size)).sum
/-- H1 behind H: at most k cells of n slots more, the old ones of their sizes -/
def Gr (H H1 : Heap) (k n : Nat) : Prop := H.size ≤ H1.size ∧ H1.size ≤ H.size + k ∧ nSl H.size H1 ≤ n ∧ ∀ (a : Nat) (c : Cell), H[a]? = some c → ∃ c' : Cell, H1[a]? = some c' ∧ c'.slots.size = c.slots.size
section CL
variable {p : Program} {l : Launch} {e : Env} {R : Room} {s : State} {m : MethodId} {args : Array Value} {below : List Frame} {meth : Method} {c : Code} {H : Heap} {locs : List Loc} {cells slots : Nat} {Q : State → Prop}
variable {cc bytes : ByteArray} {pc : Nat} {ls : Array Slot} {rest : List Value} {D : va_G} {cs : Nat → ClassId} {B0 : Nat} {y : MethodName} {wy Ts : List Cond} {fr lo mc ms nL maxL index n : Nat} {own : String} {ret : Option FieldType} {As st : List Value} {Qo : Option Value → Heap → Prop}
/-- a computed number on the stack gets the form y -/
theorem tp_i {x : Int32} (y : Int32) (h : x = y) (k : W p l e R s m args below meth c H locs cells slots Q (F0 m pc ls (.int y :: rest))) : W p l e R s m args below meth c H locs cells slots Q (F0 m pc ls (.int x :: rest)) := by
  rw [h]; exact k
theorem tp_l {x : Int64} (y : Int64) (h : x = y) (k : W p l e R s m args below meth c H locs cells slots Q (F0 m pc ls (.long y :: rest))) : W p l e R s m args below meth c H locs cells slots Q (F0 m pc ls (.long x :: rest)) := by
  rw [h]; exact k
theorem tp_r {x v : Value} (h : x = v) (k : W p l e R s m args below meth c H locs cells slots Q (F0 m pc ls (v :: rest))) : W p l e R s m args below meth c H locs cells slots Q (F0 m pc ls (x :: rest)) := by
  rw [h]; exact k
/-- a number is any number -/
theorem gn_i {x : Int32} (k : ∀ y : Int32, W p l e R s m args below meth c H locs cells slots Q (F0 m pc ls (.int y :: rest))) : W p l e R s m args below meth c H locs cells slots Q (F0 m pc ls (.int x :: rest)) := k x
theorem gn_l {x : Int64} (k : ∀ y : Int64, W p l e R s m args below meth c H locs cells slots Q (F0 m pc ls (.long y :: rest))) : W p l e R s m args below meth c H locs cells slots Q (F0 m pc ls (.long x :: rest)) := k x
theorem gn_d {x : UInt64} (k : ∀ y : UInt64, W p l e R s m args below meth c H locs cells slots Q (F0 m pc ls (.double y :: rest))) : W p l e R s m args below meth c H locs cells slots Q (F0 m pc ls (.double x :: rest)) := k x
theorem tcall {st0 : List Value} {a : Array Value} (hr : va_Run p l e R s m args below meth c H locs cells slots mc ms (F0 m pc ls st0) rest (QcH Qo a) (fun q => B0 ≤ q)) (hL : OkL B0 locs)
    (kk : ∀ (v : Option Value) (H1 : Heap) (locs1 : List Loc), OkL B0 locs1 → Qo v H1 → W p l e R s m args below meth c H1 locs1 (cells + mc) (slots + ms) Q (F0 m (pc + 3) ls (v.toList ++ rest))) : W p l e R s m args below meth c H locs cells slots Q (F0 m pc ls st0) := by
  intro T hT X
  obtain ⟨v, st₀, t, T', L, h0, X', hL', e1, e2, ⟨v', hv, hq⟩, st⟩ := hr T hT X
  cases hv
  obtain ⟨t2, a1, b1⟩ := kk v T'.heap (locs ++ L) (hL.app hL') (by rw [e1]; exact hq) T' rfl X'
  exact ⟨t2, st t2 a1, b1⟩
/-- what the machine knows at a place: cells and slots that are new -/
theorem W.know {g : JFrame} (kk : Gr s.heap H cells slots → W p l e R s m args below meth c H locs cells slots Q g) : W p l e R s m args below meth c H locs cells slots Q g := by
  intro T hT X
  have h := X.same
  have hg : Gr s.heap H cells slots := by
    refine ⟨by rw [← hT]; exact h.2.1, by rw [← hT]; exact h.2.2.1, by rw [← hT]; exact h.2.2.2.2.1, fun a c hc => ?_⟩
    obtain ⟨c', h1, h2, h3, -⟩ := h.2.2.2.2.2 a c hc
    exact ⟨c', by rw [← hT]; exact h1, h3⟩
  exact kk hg T hT X
/-- what lies below B0 is as it was -/
theorem W.old {g : JFrame} (hL : OkL B0 locs) (kk : (∀ a : Nat, a < s.heap.size → a < B0 → H[a]? = s.heap[a]?) → W p l e R s m args below meth c H locs cells slots Q g) : W p l e R s m args below meth c H locs cells slots Q g := by
  intro T hT X
  have h := X.same
  refine kk (fun a ha hB => ?_) T hT X
  obtain ⟨c, hc⟩ : ∃ c, s.heap[a]? = some c := ⟨s.heap[a], Array.getElem?_eq_getElem ha⟩
  obtain ⟨c', h1, h2, h3, h4⟩ := h.2.2.2.2.2 a c hc
  have h1 : H[a]? = some c' := by rw [← hT]; exact h1
  rw [h1, hc]
  have e : c'.slots = c.slots := by
    apply Array.ext_getElem?
    intro i
    exact h4 i (fun hm => absurd (hL _ hm) (by show ¬ B0 ≤ a; omega))
  rw [h2, e]
/-- fewer are known: the count is put lower -/
theorem W.tight {g : JFrame} {k n : Nat} (hg : Gr s.heap H k n) (kk : W p l e R s m args below meth c H locs k n Q g) : W p l e R s m args below meth c H locs cells slots Q g := by
  intro T hT X
  have h := X.same
  have h' : s.sameButNew (T.setVm s.vm) locs k n := ⟨h.1, h.2.1, by rw [show (T.setVm s.vm).heap = H from hT]; exact hg.2.1, h.2.2.2.1, by rw [show (T.setVm s.vm).heap = H from hT]; exact hg.2.2.1, h.2.2.2.2.2⟩
  exact kk T hT { X with same := h' }
end CL
section CR
variable {p : Program} {l : Launch} {e : Env} {R : Room} {s : State} {m : MethodId} {args : Array Value} {below : List Frame} {meth : Method} {c : Code} {H : Heap} {locs : List Loc} {cells slots : Nat} {Q : State → Prop}
variable {cc bytes : ByteArray} {pc : Nat} {ls : Array Slot} {rest : List Value} {D : va_G} {cs : Nat → ClassId} {B0 : Nat} {y : MethodName} {wy Ts : List Cond} {fr lo mc ms nL maxL index n : Nat} {own host C : String} {ret : Option FieldType} {As st : List Value}
theorem cv_v {b : Nat} {B : Heap → Prop} (S : CallFix p m c cc nL s args Ts own) (hM : KC l y wy fr lo mc ms D cs B0 H (.ref b :: As) (Qv B)) (cw : CallW R s args own C index y bytes maxL ret wy ({ frames := fr, cells := mc, slots := ms, locals := lo }) mc ms n) (hN : NK D cs s) (hE : EX cs B0 s s.heap) (hL : OkL B0 locs) (hrec : ∃ cellB : Cell, H[b]? = some cellB ∧ cellB.vm.isStatics = false ∧ s.vm.findClass C = some cellB.cls) (hst : st = As.reverse ++ .ref b :: rest) (hn : As.length = n) (hsz : ls.size = nL) (hroom : (rest.map fun v => v.category).sum ≤ 8) (hdg : decode cc pc = .ok (.invokevirtual index, 3)) (hc1 : cells + mc ≤ R.cells) (hs1 : slots + ms ≤ R.slots)
    (kk : ∀ (H1 : Heap) (locs1 : List Loc), OkL B0 locs1 → B H1 → W p l e R s m args below meth c H1 locs1 (cells + mc) (slots + ms) Q (F0 m (pc + 3) ls (rest))) : W p l e R s m args below meth c H locs cells slots Q (F0 m pc ls st) := by
  refine W.old hL (fun hold => ?_)
  refine tcall (va_runV (As := As) (rest := rest) S hM cw ⟨pcH_blind, hrec, fun U hU hW => ⟨rfl, hU, NK.warm hW hN, EX.at hE hold hU hW⟩⟩ rfl hn hsz hst (lv_room hroom) hdg ⟨hc1, hs1⟩) hL (fun v H1 locs1 hL1 hq => ?_)
  obtain ⟨rfl, hq⟩ := hq
  exact kk H1 locs1 hL1 hq
theorem cv_i {b : Nat} {B : Int32 → Heap → Prop} (S : CallFix p m c cc nL s args Ts own) (hM : KC l y wy fr lo mc ms D cs B0 H (.ref b :: As) (Qi B)) (cw : CallW R s args own C index y bytes maxL ret wy ({ frames := fr, cells := mc, slots := ms, locals := lo }) mc ms n) (hN : NK D cs s) (hE : EX cs B0 s s.heap) (hL : OkL B0 locs) (hrec : ∃ cellB : Cell, H[b]? = some cellB ∧ cellB.vm.isStatics = false ∧ s.vm.findClass C = some cellB.cls) (hst : st = As.reverse ++ .ref b :: rest) (hn : As.length = n) (hsz : ls.size = nL) (hroom : (rest.map fun v => v.category).sum ≤ 8) (hdg : decode cc pc = .ok (.invokevirtual index, 3)) (hc1 : cells + mc ≤ R.cells) (hs1 : slots + ms ≤ R.slots)
    (kk : ∀ (r : Int32) (H1 : Heap) (locs1 : List Loc), OkL B0 locs1 → B r H1 → W p l e R s m args below meth c H1 locs1 (cells + mc) (slots + ms) Q (F0 m (pc + 3) ls (.int r :: rest))) : W p l e R s m args below meth c H locs cells slots Q (F0 m pc ls st) := by
  refine W.old hL (fun hold => ?_)
  refine tcall (va_runV (As := As) (rest := rest) S hM cw ⟨pcH_blind, hrec, fun U hU hW => ⟨rfl, hU, NK.warm hW hN, EX.at hE hold hU hW⟩⟩ rfl hn hsz hst (lv_room hroom) hdg ⟨hc1, hs1⟩) hL (fun v H1 locs1 hL1 hq => ?_)
  obtain ⟨r, rfl, hq⟩ := hq
  exact kk r H1 locs1 hL1 hq
theorem cv_l {b : Nat} {B : Int64 → Heap → Prop} (S : CallFix p m c cc nL s args Ts own) (hM : KC l y wy fr lo mc ms D cs B0 H (.ref b :: As) (Ql B)) (cw : CallW R s args own C index y bytes maxL ret wy ({ frames := fr, cells := mc, slots := ms, locals := lo }) mc ms n) (hN : NK D cs s) (hE : EX cs B0 s s.heap) (hL : OkL B0 locs) (hrec : ∃ cellB : Cell, H[b]? = some cellB ∧ cellB.vm.isStatics = false ∧ s.vm.findClass C = some cellB.cls) (hst : st = As.reverse ++ .ref b :: rest) (hn : As.length = n) (hsz : ls.size = nL) (hroom : (rest.map fun v => v.category).sum ≤ 8) (hdg : decode cc pc = .ok (.invokevirtual index, 3)) (hc1 : cells + mc ≤ R.cells) (hs1 : slots + ms ≤ R.slots)
    (kk : ∀ (r : Int64) (H1 : Heap) (locs1 : List Loc), OkL B0 locs1 → B r H1 → W p l e R s m args below meth c H1 locs1 (cells + mc) (slots + ms) Q (F0 m (pc + 3) ls (.long r :: rest))) : W p l e R s m args below meth c H locs cells slots Q (F0 m pc ls st) := by
  refine W.old hL (fun hold => ?_)
  refine tcall (va_runV (As := As) (rest := rest) S hM cw ⟨pcH_blind, hrec, fun U hU hW => ⟨rfl, hU, NK.warm hW hN, EX.at hE hold hU hW⟩⟩ rfl hn hsz hst (lv_room hroom) hdg ⟨hc1, hs1⟩) hL (fun v H1 locs1 hL1 hq => ?_)
  obtain ⟨r, rfl, hq⟩ := hq
  exact kk r H1 locs1 hL1 hq
theorem cv_d {b : Nat} {B : UInt64 → Heap → Prop} (S : CallFix p m c cc nL s args Ts own) (hM : KC l y wy fr lo mc ms D cs B0 H (.ref b :: As) (Qd B)) (cw : CallW R s args own C index y bytes maxL ret wy ({ frames := fr, cells := mc, slots := ms, locals := lo }) mc ms n) (hN : NK D cs s) (hE : EX cs B0 s s.heap) (hL : OkL B0 locs) (hrec : ∃ cellB : Cell, H[b]? = some cellB ∧ cellB.vm.isStatics = false ∧ s.vm.findClass C = some cellB.cls) (hst : st = As.reverse ++ .ref b :: rest) (hn : As.length = n) (hsz : ls.size = nL) (hroom : (rest.map fun v => v.category).sum ≤ 8) (hdg : decode cc pc = .ok (.invokevirtual index, 3)) (hc1 : cells + mc ≤ R.cells) (hs1 : slots + ms ≤ R.slots)
    (kk : ∀ (r : UInt64) (H1 : Heap) (locs1 : List Loc), OkL B0 locs1 → B r H1 → W p l e R s m args below meth c H1 locs1 (cells + mc) (slots + ms) Q (F0 m (pc + 3) ls (.double r :: rest))) : W p l e R s m args below meth c H locs cells slots Q (F0 m pc ls st) := by
  refine W.old hL (fun hold => ?_)
  refine tcall (va_runV (As := As) (rest := rest) S hM cw ⟨pcH_blind, hrec, fun U hU hW => ⟨rfl, hU, NK.warm hW hN, EX.at hE hold hU hW⟩⟩ rfl hn hsz hst (lv_room hroom) hdg ⟨hc1, hs1⟩) hL (fun v H1 locs1 hL1 hq => ?_)
  obtain ⟨r, rfl, hq⟩ := hq
  exact kk r H1 locs1 hL1 hq
theorem cv_r {b : Nat} {B : Nat → Heap → Prop} (S : CallFix p m c cc nL s args Ts own) (hM : KC l y wy fr lo mc ms D cs B0 H (.ref b :: As) (Qr B)) (cw : CallW R s args own C index y bytes maxL ret wy ({ frames := fr, cells := mc, slots := ms, locals := lo }) mc ms n) (hN : NK D cs s) (hE : EX cs B0 s s.heap) (hL : OkL B0 locs) (hrec : ∃ cellB : Cell, H[b]? = some cellB ∧ cellB.vm.isStatics = false ∧ s.vm.findClass C = some cellB.cls) (hst : st = As.reverse ++ .ref b :: rest) (hn : As.length = n) (hsz : ls.size = nL) (hroom : (rest.map fun v => v.category).sum ≤ 8) (hdg : decode cc pc = .ok (.invokevirtual index, 3)) (hc1 : cells + mc ≤ R.cells) (hs1 : slots + ms ≤ R.slots)
    (kk : ∀ (r : Nat) (H1 : Heap) (locs1 : List Loc), OkL B0 locs1 → B r H1 → W p l e R s m args below meth c H1 locs1 (cells + mc) (slots + ms) Q (F0 m (pc + 3) ls (.ref r :: rest))) : W p l e R s m args below meth c H locs cells slots Q (F0 m pc ls st) := by
  refine W.old hL (fun hold => ?_)
  refine tcall (va_runV (As := As) (rest := rest) S hM cw ⟨pcH_blind, hrec, fun U hU hW => ⟨rfl, hU, NK.warm hW hN, EX.at hE hold hU hW⟩⟩ rfl hn hsz hst (lv_room hroom) hdg ⟨hc1, hs1⟩) hL (fun v H1 locs1 hL1 hq => ?_)
  obtain ⟨r, rfl, hq⟩ := hq
  exact kk r H1 locs1 hL1 hq
theorem cv_n {b : Nat} {B : Value → Heap → Prop} (S : CallFix p m c cc nL s args Ts own) (hM : KC l y wy fr lo mc ms D cs B0 H (.ref b :: As) (Qn B)) (cw : CallW R s args own C index y bytes maxL ret wy ({ frames := fr, cells := mc, slots := ms, locals := lo }) mc ms n) (hN : NK D cs s) (hE : EX cs B0 s s.heap) (hL : OkL B0 locs) (hrec : ∃ cellB : Cell, H[b]? = some cellB ∧ cellB.vm.isStatics = false ∧ s.vm.findClass C = some cellB.cls) (hst : st = As.reverse ++ .ref b :: rest) (hn : As.length = n) (hsz : ls.size = nL) (hroom : (rest.map fun v => v.category).sum ≤ 8) (hdg : decode cc pc = .ok (.invokevirtual index, 3)) (hc1 : cells + mc ≤ R.cells) (hs1 : slots + ms ≤ R.slots)
    (kk : ∀ (r : Value) (H1 : Heap) (locs1 : List Loc), OkL B0 locs1 → B r H1 → W p l e R s m args below meth c H1 locs1 (cells + mc) (slots + ms) Q (F0 m (pc + 3) ls (r :: rest))) : W p l e R s m args below meth c H locs cells slots Q (F0 m pc ls st) := by
  refine W.old hL (fun hold => ?_)
  refine tcall (va_runV (As := As) (rest := rest) S hM cw ⟨pcH_blind, hrec, fun U hU hW => ⟨rfl, hU, NK.warm hW hN, EX.at hE hold hU hW⟩⟩ rfl hn hsz hst (lv_room hroom) hdg ⟨hc1, hs1⟩) hL (fun v H1 locs1 hL1 hq => ?_)
  obtain ⟨r, rfl, hq⟩ := hq
  exact kk r H1 locs1 hL1 hq
theorem cs_v {B : Heap → Prop} (S : CallFix p m c cc nL s args Ts own) (hM : KC l y wy fr lo mc ms D cs B0 H As (Qv B)) (cw : CallB R s args own index y bytes maxL ret wy ({ frames := fr, cells := mc, slots := ms, locals := lo }) mc ms n ∧ (Cond.static y).before args s = true) (hN : NK D cs s) (hE : EX cs B0 s s.heap) (hL : OkL B0 locs) (hst : st = As.reverse ++ rest) (hn : As.length = n) (hsz : ls.size = nL) (hroom : (rest.map fun v => v.category).sum ≤ 8) (hdg : decode cc pc = .ok (.invokestatic index, 3)) (hc1 : cells + mc ≤ R.cells) (hs1 : slots + ms ≤ R.slots)
    (kk : ∀ (H1 : Heap) (locs1 : List Loc), OkL B0 locs1 → B H1 → W p l e R s m args below meth c H1 locs1 (cells + mc) (slots + ms) Q (F0 m (pc + 3) ls (rest))) : W p l e R s m args below meth c H locs cells slots Q (F0 m pc ls st) := by
  refine W.old hL (fun hold => ?_)
  refine tcall (va_runS (As := As) (rest := rest) S hM cw ⟨pcH_blind, fun U hU hW => ⟨rfl, hU, NK.warm hW hN, EX.at hE hold hU hW⟩⟩ rfl hn hsz hst (lv_room hroom) hdg ⟨hc1, hs1⟩) hL (fun v H1 locs1 hL1 hq => ?_)
  obtain ⟨rfl, hq⟩ := hq
  exact kk H1 locs1 hL1 hq
theorem cs_i {B : Int32 → Heap → Prop} (S : CallFix p m c cc nL s args Ts own) (hM : KC l y wy fr lo mc ms D cs B0 H As (Qi B)) (cw : CallB R s args own index y bytes maxL ret wy ({ frames := fr, cells := mc, slots := ms, locals := lo }) mc ms n ∧ (Cond.static y).before args s = true) (hN : NK D cs s) (hE : EX cs B0 s s.heap) (hL : OkL B0 locs) (hst : st = As.reverse ++ rest) (hn : As.length = n) (hsz : ls.size = nL) (hroom : (rest.map fun v => v.category).sum ≤ 8) (hdg : decode cc pc = .ok (.invokestatic index, 3)) (hc1 : cells + mc ≤ R.cells) (hs1 : slots + ms ≤ R.slots)
    (kk : ∀ (r : Int32) (H1 : Heap) (locs1 : List Loc), OkL B0 locs1 → B r H1 → W p l e R s m args below meth c H1 locs1 (cells + mc) (slots + ms) Q (F0 m (pc + 3) ls (.int r :: rest))) : W p l e R s m args below meth c H locs cells slots Q (F0 m pc ls st) := by
  refine W.old hL (fun hold => ?_)
  refine tcall (va_runS (As := As) (rest := rest) S hM cw ⟨pcH_blind, fun U hU hW => ⟨rfl, hU, NK.warm hW hN, EX.at hE hold hU hW⟩⟩ rfl hn hsz hst (lv_room hroom) hdg ⟨hc1, hs1⟩) hL (fun v H1 locs1 hL1 hq => ?_)
  obtain ⟨r, rfl, hq⟩ := hq
  exact kk r H1 locs1 hL1 hq
theorem cs_l {B : Int64 → Heap → Prop} (S : CallFix p m c cc nL s args Ts own) (hM : KC l y wy fr lo mc ms D cs B0 H As (Ql B)) (cw : CallB R s args own index y bytes maxL ret wy ({ frames := fr, cells := mc, slots := ms, locals := lo }) mc ms n ∧ (Cond.static y).before args s = true) (hN : NK D cs s) (hE : EX cs B0 s s.heap) (hL : OkL B0 locs) (hst : st = As.reverse ++ rest) (hn : As.length = n) (hsz : ls.size = nL) (hroom : (rest.map fun v => v.category).sum ≤ 8) (hdg : decode cc pc = .ok (.invokestatic index, 3)) (hc1 : cells + mc ≤ R.cells) (hs1 : slots + ms ≤ R.slots)
    (kk : ∀ (r : Int64) (H1 : Heap) (locs1 : List Loc), OkL B0 locs1 → B r H1 → W p l e R s m args below meth c H1 locs1 (cells + mc) (slots + ms) Q (F0 m (pc + 3) ls (.long r :: rest))) : W p l e R s m args below meth c H locs cells slots Q (F0 m pc ls st) := by
  refine W.old hL (fun hold => ?_)
  refine tcall (va_runS (As := As) (rest := rest) S hM cw ⟨pcH_blind, fun U hU hW => ⟨rfl, hU, NK.warm hW hN, EX.at hE hold hU hW⟩⟩ rfl hn hsz hst (lv_room hroom) hdg ⟨hc1, hs1⟩) hL (fun v H1 locs1 hL1 hq => ?_)
  obtain ⟨r, rfl, hq⟩ := hq
  exact kk r H1 locs1 hL1 hq
theorem cs_d {B : UInt64 → Heap → Prop} (S : CallFix p m c cc nL s args Ts own) (hM : KC l y wy fr lo mc ms D cs B0 H As (Qd B)) (cw : CallB R s args own index y bytes maxL ret wy ({ frames := fr, cells := mc, slots := ms, locals := lo }) mc ms n ∧ (Cond.static y).before args s = true) (hN : NK D cs s) (hE : EX cs B0 s s.heap) (hL : OkL B0 locs) (hst : st = As.reverse ++ rest) (hn : As.length = n) (hsz : ls.size = nL) (hroom : (rest.map fun v => v.category).sum ≤ 8) (hdg : decode cc pc = .ok (.invokestatic index, 3)) (hc1 : cells + mc ≤ R.cells) (hs1 : slots + ms ≤ R.slots)
    (kk : ∀ (r : UInt64) (H1 : Heap) (locs1 : List Loc), OkL B0 locs1 → B r H1 → W p l e R s m args below meth c H1 locs1 (cells + mc) (slots + ms) Q (F0 m (pc + 3) ls (.double r :: rest))) : W p l e R s m args below meth c H locs cells slots Q (F0 m pc ls st) := by
  refine W.old hL (fun hold => ?_)
  refine tcall (va_runS (As := As) (rest := rest) S hM cw ⟨pcH_blind, fun U hU hW => ⟨rfl, hU, NK.warm hW hN, EX.at hE hold hU hW⟩⟩ rfl hn hsz hst (lv_room hroom) hdg ⟨hc1, hs1⟩) hL (fun v H1 locs1 hL1 hq => ?_)
  obtain ⟨r, rfl, hq⟩ := hq
  exact kk r H1 locs1 hL1 hq
theorem cs_r {B : Nat → Heap → Prop} (S : CallFix p m c cc nL s args Ts own) (hM : KC l y wy fr lo mc ms D cs B0 H As (Qr B)) (cw : CallB R s args own index y bytes maxL ret wy ({ frames := fr, cells := mc, slots := ms, locals := lo }) mc ms n ∧ (Cond.static y).before args s = true) (hN : NK D cs s) (hE : EX cs B0 s s.heap) (hL : OkL B0 locs) (hst : st = As.reverse ++ rest) (hn : As.length = n) (hsz : ls.size = nL) (hroom : (rest.map fun v => v.category).sum ≤ 8) (hdg : decode cc pc = .ok (.invokestatic index, 3)) (hc1 : cells + mc ≤ R.cells) (hs1 : slots + ms ≤ R.slots)
    (kk : ∀ (r : Nat) (H1 : Heap) (locs1 : List Loc), OkL B0 locs1 → B r H1 → W p l e R s m args below meth c H1 locs1 (cells + mc) (slots + ms) Q (F0 m (pc + 3) ls (.ref r :: rest))) : W p l e R s m args below meth c H locs cells slots Q (F0 m pc ls st) := by
  refine W.old hL (fun hold => ?_)
  refine tcall (va_runS (As := As) (rest := rest) S hM cw ⟨pcH_blind, fun U hU hW => ⟨rfl, hU, NK.warm hW hN, EX.at hE hold hU hW⟩⟩ rfl hn hsz hst (lv_room hroom) hdg ⟨hc1, hs1⟩) hL (fun v H1 locs1 hL1 hq => ?_)
  obtain ⟨r, rfl, hq⟩ := hq
  exact kk r H1 locs1 hL1 hq
theorem cs_n {B : Value → Heap → Prop} (S : CallFix p m c cc nL s args Ts own) (hM : KC l y wy fr lo mc ms D cs B0 H As (Qn B)) (cw : CallB R s args own index y bytes maxL ret wy ({ frames := fr, cells := mc, slots := ms, locals := lo }) mc ms n ∧ (Cond.static y).before args s = true) (hN : NK D cs s) (hE : EX cs B0 s s.heap) (hL : OkL B0 locs) (hst : st = As.reverse ++ rest) (hn : As.length = n) (hsz : ls.size = nL) (hroom : (rest.map fun v => v.category).sum ≤ 8) (hdg : decode cc pc = .ok (.invokestatic index, 3)) (hc1 : cells + mc ≤ R.cells) (hs1 : slots + ms ≤ R.slots)
    (kk : ∀ (r : Value) (H1 : Heap) (locs1 : List Loc), OkL B0 locs1 → B r H1 → W p l e R s m args below meth c H1 locs1 (cells + mc) (slots + ms) Q (F0 m (pc + 3) ls (r :: rest))) : W p l e R s m args below meth c H locs cells slots Q (F0 m pc ls st) := by
  refine W.old hL (fun hold => ?_)
  refine tcall (va_runS (As := As) (rest := rest) S hM cw ⟨pcH_blind, fun U hU hW => ⟨rfl, hU, NK.warm hW hN, EX.at hE hold hU hW⟩⟩ rfl hn hsz hst (lv_room hroom) hdg ⟨hc1, hs1⟩) hL (fun v H1 locs1 hL1 hq => ?_)
  obtain ⟨r, rfl, hq⟩ := hq
  exact kk r H1 locs1 hL1 hq
theorem ci_v {b : Nat} {B : Heap → Prop} (S : CallFix p m c cc nL s args Ts own) (hM : KC l y wy fr lo mc ms D cs B0 H (.ref b :: As) (Qv B)) (cw : CallB R s args own index y bytes maxL none wy ({ frames := fr, cells := mc, slots := ms, locals := lo }) mc ms n ∧ y.name = "<init>" ∧ (Cond.instanceMethod y).before args s = true) (hN : NK D cs s) (hE : EX cs B0 s s.heap) (hL : OkL B0 locs) (hst : st = As.reverse ++ .ref b :: rest) (hn : As.length = n) (hsz : ls.size = nL) (hroom : (rest.map fun v => v.category).sum ≤ 8) (hdg : decode cc pc = .ok (.invokespecial index, 3)) (hc1 : cells + mc ≤ R.cells) (hs1 : slots + ms ≤ R.slots)
    (kk : ∀ (H1 : Heap) (locs1 : List Loc), OkL B0 locs1 → B H1 → W p l e R s m args below meth c H1 locs1 (cells + mc) (slots + ms) Q (F0 m (pc + 3) ls (rest))) : W p l e R s m args below meth c H locs cells slots Q (F0 m pc ls st) := by
  refine W.old hL (fun hold => ?_)
  refine tcall (va_runI (As := As) (rest := rest) S hM cw ⟨pcH_blind, fun U hU hW => ⟨rfl, hU, NK.warm hW hN, EX.at hE hold hU hW⟩⟩ rfl hn hsz hst (lv_room hroom) hdg ⟨hc1, hs1⟩) hL (fun v H1 locs1 hL1 hq => ?_)
  obtain ⟨rfl, hq⟩ := hq
  exact kk H1 locs1 hL1 hq
theorem cn_v {b : Nat} {B : Heap → Prop} (S : CallFix p m c cc nL s args Ts own) (hM : KC l y wy fr lo mc ms D cs B0 H (.ref b :: As) (Qv B)) (cw : va_CN R s args own index y host bytes maxL none wy ({ frames := fr, cells := mc, slots := ms, locals := lo }) mc ms n ∧ y.name = "<init>" ∧ (Cond.instanceMethod y).before args s = true) (hN : NK D cs s) (hE : EX cs B0 s s.heap) (hL : OkL B0 locs) (hst : st = As.reverse ++ .ref b :: rest) (hn : As.length = n) (hsz : ls.size = nL) (hroom : (rest.map fun v => v.category).sum ≤ 8) (hdg : decode cc pc = .ok (.invokespecial index, 3)) (hc1 : cells + mc ≤ R.cells) (hs1 : slots + ms ≤ R.slots)
    (kk : ∀ (H1 : Heap) (locs1 : List Loc), OkL B0 locs1 → B H1 → W p l e R s m args below meth c H1 locs1 (cells + mc) (slots + ms) Q (F0 m (pc + 3) ls (rest))) : W p l e R s m args below meth c H locs cells slots Q (F0 m pc ls st) := by
  refine W.old hL (fun hold => ?_)
  refine tcall (va_runIN (As := As) (rest := rest) S hM cw ⟨pcH_blind, fun U hU hW => ⟨rfl, hU, NK.warm hW hN, EX.at hE hold hU hW⟩⟩ rfl hn hsz hst (lv_room hroom) hdg ⟨hc1, hs1⟩) hL (fun v H1 locs1 hL1 hq => ?_)
  obtain ⟨rfl, hq⟩ := hq
  exact kk H1 locs1 hL1 hq
end CR
section EN
variable {p : Program} {l : Launch} {e : Env} {R : Room} {s : State} {m : MethodId} {args : Array Value} {below : List Frame} {meth : Method} {c : Code} {H : Heap} {locs : List Loc} {cells slots mc ms : Nat}
variable {cc : ByteArray} {pc : Nat} {ls : Array Slot} {D : va_G} {B0 : Nat}
theorem en_v {B : Heap → Prop} (hx : p.tables.exec = Jvm.exec) (hb : c.code = cc) (hr : meth.sig.returnType = none) (hlocks : meth.locks = false) (hL : OkL B0 locs) (hc1 : cells ≤ mc) (hs1 : slots ≤ ms) (hdg : decode cc pc = .ok (.return_, 1)) (hB : B H) : W p l e R s m args below meth c H locs cells slots (MQ below (QcH (Qv B)) args s mc ms (fun q => B0 ≤ q)) (F0 m pc ls []) := by
  refine W.widen (k := mc) (n := ms) hc1 hs1 ?_
  exact W.vret hx hb hr (fun t ht hW => ⟨_, rfl, rfl, by rw [ht]; exact hB⟩) hL hdg
theorem en_i {B : Int32 → Heap → Prop} {x : Int32} {ty : FieldType} (hx : p.tables.exec = Jvm.exec) (hb : c.code = cc) (hr : meth.sig.returnType = some ty) (hlocks : meth.locks = false) (hL : OkL B0 locs) (hn : narrow ty (.int x) = .int x) (hc1 : cells ≤ mc) (hs1 : slots ≤ ms) (hdg : decode cc pc = .ok (.ireturn, 1)) (hB : B x H) : W p l e R s m args below meth c H locs cells slots (MQ below (QcH (Qi B)) args s mc ms (fun q => B0 ≤ q)) (F0 m pc ls [.int x]) := by
  refine W.widen (k := mc) (n := ms) hc1 hs1 ?_
  exact W.zret hx hb hr hn (fun t ht hW => ⟨_, rfl, x, rfl, by rw [ht]; exact hB⟩) hL hdg
theorem en_l {B : Int64 → Heap → Prop} {x : Int64} (hx : p.tables.exec = Jvm.exec) (hb : c.code = cc) (hr : meth.sig.returnType = some .long) (hlocks : meth.locks = false) (hL : OkL B0 locs) (hc1 : cells ≤ mc) (hs1 : slots ≤ ms) (hdg : decode cc pc = .ok (.lreturn, 1)) (hB : B x H) : W p l e R s m args below meth c H locs cells slots (MQ below (QcH (Ql B)) args s mc ms (fun q => B0 ≤ q)) (F0 m pc ls [.long x]) := by
  refine W.widen (k := mc) (n := ms) hc1 hs1 ?_
  exact W.lret hx hb hr (fun t ht hW => ⟨_, rfl, x, rfl, by rw [ht]; exact hB⟩) hL hdg
theorem en_d {B : UInt64 → Heap → Prop} {x : UInt64} (hx : p.tables.exec = Jvm.exec) (hb : c.code = cc) (hr : meth.sig.returnType = some .double) (hlocks : meth.locks = false) (hL : OkL B0 locs) (hc1 : cells ≤ mc) (hs1 : slots ≤ ms) (hdg : decode cc pc = .ok (.dreturn, 1)) (hB : B x H) : W p l e R s m args below meth c H locs cells slots (MQ below (QcH (Qd B)) args s mc ms (fun q => B0 ≤ q)) (F0 m pc ls [.double x]) := by
  refine W.widen (k := mc) (n := ms) hc1 hs1 ?_
  exact W.dret hx hb hr (fun t ht hW => ⟨_, rfl, x, rfl, by rw [ht]; exact hB⟩) hL hdg
theorem en_r {B : Nat → Heap → Prop} {x : Nat} {rt : FieldType} (hx : p.tables.exec = Jvm.exec) (hb : c.code = cc) (hr : meth.sig.returnType = some rt) (hlocks : meth.locks = false) (hrt : (∃ n, rt = .object n) ∨ ∃ t, rt = .array t) (hL : OkL B0 locs) (hc1 : cells ≤ mc) (hs1 : slots ≤ ms) (hdg : decode cc pc = .ok (.areturn, 1)) (hB : B x H) : W p l e R s m args below meth c H locs cells slots (MQ below (QcH (Qr B)) args s mc ms (fun q => B0 ≤ q)) (F0 m pc ls [.ref x]) := by
  refine W.widen (k := mc) (n := ms) hc1 hs1 ?_
  exact W.aret hx hb hr hrt (Or.inr ⟨x, rfl⟩) (fun t ht hW => ⟨_, rfl, x, rfl, by rw [ht]; exact hB⟩) hL hdg
theorem en_n {B : Value → Heap → Prop} {x : Value} {rt : FieldType} (hx : p.tables.exec = Jvm.exec) (hb : c.code = cc) (hr : meth.sig.returnType = some rt) (hlocks : meth.locks = false) (hrt : (∃ n, rt = .object n) ∨ ∃ t, rt = .array t) (hL : OkL B0 locs) (hc1 : cells ≤ mc) (hs1 : slots ≤ ms) (hx9 : x = .null ∨ ∃ a, x = .ref a) (hdg : decode cc pc = .ok (.areturn, 1)) (hB : B x H) : W p l e R s m args below meth c H locs cells slots (MQ below (QcH (Qn B)) args s mc ms (fun q => B0 ≤ q)) (F0 m pc ls [x]) := by
  refine W.widen (k := mc) (n := ms) hc1 hs1 ?_
  exact W.aret hx hb hr hrt hx9 (fun t ht hW => ⟨_, rfl, x, rfl, by rw [ht]; exact hB⟩) hL hdg
end EN
section AR
variable {p : Program} {l : Launch} {e : Env} {R : Room} {s : State} {m : MethodId} {args : Array Value} {below : List Frame} {meth : Method} {c : Code} {H : Heap} {locs : List Loc} {cells slots : Nat} {Q : State → Prop}
variable {cc : ByteArray} {pc : Nat} {ls : Array Slot} {rest : List Value} {D : va_G} {cl : List vw_C} {A : Nat → Prop} {a : Nat} {tys : List (ClassId × FieldType)} {ws : va_W} {H0 : Heap}
/-- aaload from an array of arrays -/
theorem va_alda (hexec : p.tables.exec = Jvm.exec) (hb : c.code = cc) (hK : va_K D cl tys s) (hP : va_P D cl ws H) (q0 t0 : Nat) {cA : ClassId} {ty : FieldType} {n : Nat} {f : Nat → Option Nat} (ha : ws[q0]? = some (a, .inl (cA, n, .inr (.inr (.inr (.inr f)))))) (ht : tys[t0]? = some (cA, .array ty)) {i : Int32} (hin : vp_in i n) (hdg : decode cc pc = .ok (.aaload, 1))
    (kk : W p l e R s m args below meth c H locs cells slots Q (F0 m (pc + 1) ls (va_rf (f i.toNatClampNeg) :: rest))) : W p l e R s m args below meth c H locs cells slots Q (F0 m pc ls (.int i :: .ref a :: rest)) := by
  have hlt : i.toNatClampNeg < n := Nat.not_le.mp fun q => hin (Or.inr q)
  exact W.aald (v := va_rf (f i.toNatClampNeg)) (ty := .array ty) hexec hb (hP q0 _ ha) ((hK.2 t0 _ ht).1 n (fun j => va_rf (f j))) rfl (fun q => by cases q) (by show ¬ (i < 0 ∨ (arrV _ _ _).slots.size ≤ _); rw [arrV_size]; exact hin) (by show (arrV _ _ _).slots[_]? = _; rw [arrV_read _ _ hlt]) rfl rfl hdg kk
/-- two ids of one array class are one -/
theorem ra_one {U : State} {c1 c2 : ClassId} {ty : FieldType} (h1 : va_RA U c1 ty) (h2 : va_RA U c2 ty) : c1 = c2 := by
  cases ty with
  | object C =>
    obtain ⟨_, _, _, _, _, e1⟩ := h1
    obtain ⟨_, _, _, _, _, e2⟩ := h2
    exact Option.some.inj (e1.symm.trans e2)
  | _ => exact Option.some.inj (Eq.trans (Eq.symm h1) h2)
end AR
