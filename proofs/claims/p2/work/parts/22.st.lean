/-! ===== the start: what the constructors make, as lists of cells ===== -/
def KV2 (l : Launch) (y : MethodName) (wy : List Cond) (fr lo mc ms : Nat) (D : va_G) (cs : Nat → ClassId) (sz : Nat) (av : List Value) (w0 : va_W) {α : Type} (w1 : α → va_W) : Prop :=
  Met l y wy ({ frames := fr, cells := mc, slots := ms, locals := lo }) (va_Pc av (PcW D cs sz w0)) (va_Qv (fun _ : α => True) (fun u t => va_P D vwCl (w1 u) t.heap ∧ va_D (va_A w0 sz) (w1 u)) (va_A w0 sz)) mc ms (va_A w0 sz)
theorem KV2.of {l : Launch} {y : MethodName} {wy wy' : List Cond} {fr lo mc ms : Nat} {D : va_G} {cs : Nat → ClassId} {sz : Nat} {av : List Value} {w0 : va_W} {α : Type} {w1 : α → va_W} (cc : ByteArray) (maxL : Nat) (ret : Option FieldType) (hy : plainName y.cls = true) (hw : wy = Cond.code y cc maxL ret :: wy') (hn : (lg_sl av).length ≤ maxL)
    (body : ∀ (p : Program) (e : Env) (s : State) (m : MethodId) (below : List Frame) (meth : Method) (c : Code) (A : Nat → Prop) (ls : Array Slot), p.tables.exec = Jvm.exec → c.code = cc → meth.sig.returnType = ret → c.maxLocals = maxL → s.vm.findClass y.cls = some m.cls → (∀ w ∈ wy, w.before av.toArray s = true) → meth.locks = false → meth.name = y.name → va_P D vwCl w0 s.heap → NK D cs s → va_D A w0 → (∀ q : Nat, s.heap.size ≤ q → A q) → va_S A s.heap s.heap [] → lv_has ls maxL (lv_args 0 av) →
      W p l e ({ frames := fr, cells := mc, slots := ms, locals := lo } : Room) s m av.toArray below meth c s.heap [] 0 0 (MQ below (va_Qv (fun _ : α => True) (fun u t => va_P D vwCl (w1 u) t.heap ∧ va_D A (w1 u)) A) av.toArray s mc ms A) (F0 m 0 ls [])) : KV2 l y wy fr lo mc ms D cs sz av w0 w1 := by
  refine Met.ofW (cc := cc) (maxL := maxL) (ret := ret) hy hw ?_
  intro p e s m args below meth c s₁ B hml hv
  obtain ⟨rfl, hsz, hP, hN, hD0⟩ := hv
  have hts := atoms_spec (ws := wy) B.pre
  have hown : s.vm.findClass y.cls = some m.cls := findClass_of_methodNamed B.named
  have hin : meth.name = y.name := (name_of_methodNamed B.named B.method).1
  subst hsz
  have hD := hD0.self (sz := s.heap.size)
  have hl := lv_entry av (n := maxL) hn
  rw [lg_entry_eq]
  generalize (lg_sl av ++ List.replicate (maxL - (lg_sl av).length) Slot.unset).toArray = ls at hl ⊢
  exact body p e s m below meth c (va_A w0 s.heap.size) ls B.exec B.bytes B.returns hml hown hts B.notSynchronized hin hP hN hD (fun q h => Or.inr h) va_S.rf hl
section EN
variable {p : Program} {l : Launch} {e : Env} {R : Room} {s : State} {m : MethodId} {args : Array Value} {below : List Frame} {meth : Method} {c : Code} {H : Heap} {locs : List Loc} {cells slots mc ms : Nat}
variable {cc : ByteArray} {pc : Nat} {ls : Array Slot} {D : va_G} {A : Nat → Prop} {α : Type} {w1 : α → va_W}
theorem en_v2 (u : α) (hx : p.tables.exec = Jvm.exec) (hb : c.code = cc) (hr : meth.sig.returnType = none) (hlocks : meth.locks = false) (hP : va_P D vwCl (w1 u) H) (hD : va_D A (w1 u)) (hS : va_S A s.heap H locs) (hc1 : cells ≤ mc) (hs1 : slots ≤ ms) (hdg : decode cc pc = .ok (.return_, 1)) : W p l e R s m args below meth c H locs cells slots (MQ below (va_Qv (fun _ : α => True) (fun u t => va_P D vwCl (w1 u) t.heap ∧ va_D A (w1 u)) A) args s mc ms A) (F0 m pc ls []) := by
  refine W.widen (k := mc) (n := ms) hc1 hs1 ?_
  exact W.vret hx hb hr (fun t ht hW => ⟨⟨u, rfl, trivial, by rw [ht]; exact hP, hD⟩, hS.F ht⟩) hS.2.2 hdg
end EN
theorem nd_r : ∀ n a : Nat, va_nd (List.range' a n) = true
  | 0, _ => rfl
  | n + 1, a => by
    rw [List.range'_succ]
    simp only [va_nd, Bool.and_eq_true, decide_eq_true_eq]
    exact ⟨fun h => by have := (List.mem_range'_1.mp h).1; omega, nd_r n (a + 1)⟩
theorem hz_n (n : Nat) : va_nd [n] = true := nd_r 1 n
theorem hz_C (ws : va_W) (x : Nat × va_E) : [ws.length].map (fun i => (ws ++ [x])[i]?) = [x].map some := by simp
theorem hz_R (ws : va_W) (x : Nat × va_E) : (List.range' 0 ws.length).map (fun i => (ws ++ [x])[i]?) = ws.map some := by
  apply List.ext_getElem?
  intro i
  simp only [List.getElem?_map]
  by_cases h : i < ws.length
  · rw [List.getElem?_range' (by omega)]
    simp [List.getElem?_append_left, h]
  · rw [List.getElem?_eq_none (by simp; omega), List.getElem?_eq_none (by omega)]
    rfl
theorem hz_x {n : Nat} : ∀ i ∈ List.range' 0 n, i ∉ [n] := fun i h h2 => by
  have := (List.mem_range'_1.mp h).2
  have := List.mem_singleton.mp h2
  omega
theorem rot_i (ws : va_W) (x : Nat × va_E) : (ws.length :: List.range' 0 ws.length).map (fun i => (ws ++ [x])[i]?) = (x :: ws).map some := by
  rw [List.map_cons, List.map_cons, hz_R]
  simp
theorem rot_n (n : Nat) : va_nd (n :: List.range' 0 n) = true := by
  simp only [va_nd, Bool.and_eq_true, decide_eq_true_eq]
  exact ⟨fun h => by have := (List.mem_range'_1.mp h).2; omega, nd_r n 0⟩
theorem rot_P {D : va_G} {ws : va_W} {x : Nat × va_E} {H : Heap} (hP : va_P D vwCl (ws ++ [x]) H) : va_P D vwCl (x :: ws) H := cl_P hP (rot_i ws x)
theorem rot_D {A : Nat → Prop} {ws : va_W} {x : Nat × va_E} (hD : va_D A (ws ++ [x])) : va_D A (x :: ws) := hD.sub _ (rot_n _) (rot_i ws x)
theorem at_app {t w : va_W} {k : Nat} {x : Nat × va_E} (h : w[k]? = some x) : (t ++ w)[t.length + k]? = some x := by
  rw [List.getElem?_append_right (by omega), Nat.add_sub_cancel_left]; exact h
theorem at_app2 {t w : va_W} {k : Nat} {x y z : Nat × va_E} (h : w[k]? = some x) : (y :: z :: (t ++ w))[t.length + k + 2]? = some x := at_app h
section CL
variable {p : Program} {l : Launch} {e : Env} {R : Room} {s : State} {m : MethodId} {args : Array Value} {below : List Frame} {meth : Method} {c : Code} {H : Heap} {locs : List Loc} {cells slots : Nat} {Q : State → Prop}
variable {cc bytes : ByteArray} {pc : Nat} {ls : Array Slot} {rest : List Value} {D : va_G} {cs : Nat → ClassId} {A : Nat → Prop} {ws wc wr : va_W} {H0 : Heap} {y : MethodName} {wy Ts : List Cond} {fr lo mc ms nL maxL index n : Nat} {own : String} {ret : Option FieldType} {As st : List Value} {isC isR : List Nat}
theorem ci_vH {b : Nat} {e0 : va_E} {α : Type} {w2 : α → va_W} (S : CallFix p m c cc nL s args Ts own) (hM : ∀ sz, KV2 l y wy fr lo mc ms D cs sz (.ref b :: As) [(b, e0)] w2) (cw : CallB R s args own index y bytes maxL none wy ({ frames := fr, cells := mc, slots := ms, locals := lo }) mc ms n ∧ y.name = "<init>" ∧ (Cond.instanceMethod y).before args s = true) (hN : NK D cs s) (hP : va_P D vwCl (ws ++ [(b, e0)]) H) (hD : va_D A (ws ++ [(b, e0)])) (hS : va_S A H0 H locs) (hA : ∀ q, H0.size ≤ q → A q) (hst : st = As.reverse ++ .ref b :: rest) (hn : As.length = n) (hsz : ls.size = nL) (hroom : (rest.map fun v => v.category).sum ≤ 8) (hdg : decode cc pc = .ok (.invokespecial index, 3)) (hc1 : cells + mc ≤ R.cells) (hs1 : slots + ms ≤ R.slots)
    (kk : ∀ (u : α) (H1 : Heap) (locs1 : List Loc), va_P D vwCl (ws ++ w2 u) H1 → va_D A (ws ++ w2 u) → va_S A H0 H1 locs1 → W p l e R s m args below meth c H1 locs1 (cells + mc) (slots + ms) Q (F0 m (pc + 3) ls rest)) : W p l e R s m args below meth c H locs cells slots Q (F0 m pc ls st) := by
  have hC := hz_C ws (b, e0)
  have hR := hz_R ws (b, e0)
  have hFc := va_free hD hS hA [ws.length] hC
  refine va_callv (va_runI (As := As) (rest := rest) S (hM H.size) cw ⟨PcW.blind, fun U hU hW => ⟨rfl, by rw [hU], by rw [hU]; exact cl_P hP hC, NK.warm hW hN, (hD.sub [ws.length] (hz_n _) hC).weaken (fun _ _ _ _ => trivial)⟩⟩ rfl hn hsz hst (lv_room hroom) hdg ⟨hc1, hs1⟩) hS (fun q _ h => hFc q h) hFc (fun u t H1 locs1 ht hvm hw hB hz1 hk1 hS1 => ?_)
  obtain ⟨hP1, hD1⟩ := hB
  rw [ht] at hP1
  obtain ⟨hP2, hD2⟩ := va_join hP hD [ws.length] (List.range' 0 ws.length) hC hR (nd_r _ _) hz_x hk1 hFc hP1 hD1
  exact kk u H1 locs1 hP2 hD2 hS1
theorem cn_vH {b : Nat} {e0 : va_E} {α : Type} {w2 : α → va_W} {host : String} (S : CallFix p m c cc nL s args Ts own) (hM : ∀ sz, KV2 l y wy fr lo mc ms D cs sz (.ref b :: As) [(b, e0)] w2) (cw : va_CN R s args own index y host bytes maxL none wy ({ frames := fr, cells := mc, slots := ms, locals := lo }) mc ms n ∧ y.name = "<init>" ∧ (Cond.instanceMethod y).before args s = true) (hN : NK D cs s) (hP : va_P D vwCl (ws ++ [(b, e0)]) H) (hD : va_D A (ws ++ [(b, e0)])) (hS : va_S A H0 H locs) (hA : ∀ q, H0.size ≤ q → A q) (hst : st = As.reverse ++ .ref b :: rest) (hn : As.length = n) (hsz : ls.size = nL) (hroom : (rest.map fun v => v.category).sum ≤ 8) (hdg : decode cc pc = .ok (.invokespecial index, 3)) (hc1 : cells + mc ≤ R.cells) (hs1 : slots + ms ≤ R.slots)
    (kk : ∀ (u : α) (H1 : Heap) (locs1 : List Loc), va_P D vwCl (ws ++ w2 u) H1 → va_D A (ws ++ w2 u) → va_S A H0 H1 locs1 → W p l e R s m args below meth c H1 locs1 (cells + mc) (slots + ms) Q (F0 m (pc + 3) ls rest)) : W p l e R s m args below meth c H locs cells slots Q (F0 m pc ls st) := by
  have hC := hz_C ws (b, e0)
  have hR := hz_R ws (b, e0)
  have hFc := va_free hD hS hA [ws.length] hC
  refine va_callv (va_runIN (As := As) (rest := rest) S (hM H.size) cw ⟨PcW.blind, fun U hU hW => ⟨rfl, by rw [hU], by rw [hU]; exact cl_P hP hC, NK.warm hW hN, (hD.sub [ws.length] (hz_n _) hC).weaken (fun _ _ _ _ => trivial)⟩⟩ rfl hn hsz hst (lv_room hroom) hdg ⟨hc1, hs1⟩) hS (fun q _ h => hFc q h) hFc (fun u t H1 locs1 ht hvm hw hB hz1 hk1 hS1 => ?_)
  obtain ⟨hP1, hD1⟩ := hB
  rw [ht] at hP1
  obtain ⟨hP2, hD2⟩ := va_join hP hD [ws.length] (List.range' 0 ws.length) hC hR (nd_r _ _) hz_x hk1 hFc hP1 hD1
  exact kk u H1 locs1 hP2 hD2 hS1
end CL
def wd (cs : Nat → ClassId) (q : Nat) (v : Nat → Nat) : va_W := [((v 2), .inl (cs 6, 16, .inr (.inr (.inr (.inr (rowsF [(v 3), (v 4), (v 5), (v 6), (v 7), (v 8), (v 9), (v 10), (v 11), (v 12), (v 13), (v 14), (v 15), (v 16), (v 17), (v 18)])))))), ((v 3), .inl (cs 0, 14, .inl (fun _ => 0))), ((v 4), .inl (cs 0, 14, .inl (fun _ => 0))), ((v 5), .inl (cs 0, 14, .inl (fun _ => 0))), ((v 6), .inl (cs 0, 14, .inl (fun _ => 0))), ((v 7), .inl (cs 0, 14, .inl (fun _ => 0))), ((v 8), .inl (cs 0, 14, .inl (fun _ => 0))), ((v 9), .inl (cs 0, 14, .inl (fun _ => 0))), ((v 10), .inl (cs 0, 14, .inl (fun _ => 0))), ((v 11), .inl (cs 0, 14, .inl (fun _ => 0))), ((v 12), .inl (cs 0, 14, .inl (fun _ => 0))), ((v 13), .inl (cs 0, 14, .inl (fun _ => 0))), ((v 14), .inl (cs 0, 14, .inl (fun _ => 0))), ((v 15), .inl (cs 0, 14, .inl (fun _ => 0))), ((v 16), .inl (cs 0, 14, .inl (fun _ => 0))), ((v 17), .inl (cs 0, 14, .inl (fun _ => 0))), ((v 18), .inl (cs 0, 14, .inl (fun _ => 0))), ((v 21), .inr (1, [.int 0, .int 0, .int 0, .int 0, .int 0, .int 0, .int 0])), ((v 22), .inr (1, [.int 0, .int 0, .int 0, .int 0, .int 0, .int 0, .int 0])), ((v 32), .inl (cs 2, 8, .inl (fun _ => 0))), ((v 33), .inl (cs 0, 8, .inl (fun _ => 0))), ((v 34), .inl (cs 0, 8, .inl (fun _ => 0))), ((v 35), .inl (cs 0, 64, .inl (fun _ => 0))), ((v 31), .inr (6, [.int 1, .int 1, .int 50, .null, .ref (v 32), .ref (v 33), .ref (v 34), .ref (v 35)])), (q, .inr (7, [.ref (v 31), .ref (v 0), .ref (v 1), .ref (v 20), .ref (v 21), .ref (v 22), .long 0, .int 0, .int 0, .int 0, .int 0, .int 0, .int 0, .int 0, .int 0, .int 0])), ((v 0), .inl (cs 4, 8, .inr (.inr (.inr (.inr (va_up (va_up (va_up (va_up (va_up (va_up (va_up (va_up (fun _ => none) 0 (some (v 23))) 1 (some (v 24))) 2 (some (v 25))) 3 (some (v 26))) 4 (some (v 27))) 5 (some (v 28))) 6 (some (v 29))) 7 (some (v 30)))))))), ((v 23), .inr (3, [.int 1, .int 0, .int 0, .int 0, .int (-1), .int 0, .int 0, .int 0, .int 0, .int (-1)])), ((v 24), .inr (3, [.int 1, .int 0, .int 0, .int 0, .int (-1), .int 0, .int 0, .int 0, .int 0, .int (-1)])), ((v 25), .inr (3, [.int 1, .int 0, .int 0, .int 0, .int (-1), .int 0, .int 0, .int 0, .int 0, .int (-1)])), ((v 26), .inr (3, [.int 1, .int 0, .int 0, .int 0, .int (-1), .int 0, .int 0, .int 0, .int 0, .int (-1)])), ((v 27), .inr (3, [.int 1, .int 0, .int 0, .int 0, .int (-1), .int 0, .int 0, .int 0, .int 0, .int (-1)])), ((v 28), .inr (3, [.int 1, .int 0, .int 0, .int 0, .int (-1), .int 0, .int 0, .int 0, .int 0, .int (-1)])), ((v 29), .inr (3, [.int 1, .int 0, .int 0, .int 0, .int (-1), .int 0, .int 0, .int 0, .int 0, .int (-1)])), ((v 30), .inr (3, [.int 1, .int 0, .int 0, .int 0, .int (-1), .int 0, .int 0, .int 0, .int 0, .int (-1)])), ((v 1), .inr (2, [.ref (v 2), .ref (v 19), .int 0])), ((v 19), .inl (cs 0, 16, .inl (fun _ => 0))), ((v 20), .inr (4, [.int 0, .int 0, .int 0, .int 0, .int 0, .int 3, .int (-1), .int 0]))]
def rdl (cs : Nat → ClassId) (q : Nat) (v : Nat → Nat) : va_W := [(q, .inr (5, [.ref (v 0), .int 0, .int 0, .int 0, .int 0, .int 0, .int 0, .int 0, .int 0, .ref (v 1), .int 0, .null, .int 0, .int 0])), ((v 0), .inl (cs 1, 600, .inl (fun _ => 0))), ((v 1), .inl (cs 0, 600, .inl (fun _ => 0)))]
def m9 (cs : Nat → ClassId) (q : Nat) (v : Nat → Nat) : va_W := [(q, .inr (9, [.int 0, .ref (v 0), .int 0, .int 0, .int 0, .int 0, .int 0, .int (-1), .ref (v 1), .ref (v 2), .ref (v 3), .ref (v 4), .int 0, .int 0, .int 0, .int 0, .int 0, .ref (v 13)])), ((v 0), .inl (cs 0, 600, .inl (fun _ => 0))), ((v 2), .inl (cs 0, 45783, .inl (fun _ => 0))), ((v 3), .inl (cs 0, 1383, .inl (fun _ => 0))), ((v 4), .inl (cs 6, 8, .inr (.inr (.inr (.inr (rowsF [(v 5), (v 6), (v 7), (v 8), (v 9), (v 10), (v 11), (v 12)])))))), ((v 5), .inl (cs 0, 45783, .inl (fun _ => 0))), ((v 6), .inl (cs 0, 45783, .inl (fun _ => 0))), ((v 7), .inl (cs 0, 45783, .inl (fun _ => 0))), ((v 8), .inl (cs 0, 45783, .inl (fun _ => 0))), ((v 9), .inl (cs 0, 45783, .inl (fun _ => 0))), ((v 10), .inl (cs 0, 45783, .inl (fun _ => 0))), ((v 11), .inl (cs 0, 45783, .inl (fun _ => 0))), ((v 12), .inl (cs 0, 45783, .inl (fun _ => 0))), ((v 13), .inl (cs 3, 1200, .inr (.inl (fun _ => 0)))), ((v 1), .inl (cs 0, 45783, .inl (layF (fun _ => 0) 1)))]
/-- the class's cells: worlds g 0 .. g 9, the reader g 10, the past's row g 11; w i their parts -/
def w8 (cs : Nat → ClassId) (a0 : Nat) (g : Nat → Nat) (w : Nat → Nat → Nat) : va_W := (g 11, .inl (cs 5, 8, .inr (.inr (.inr (.inr (va_up (va_up (va_up (va_up (va_up (va_up (va_up (va_up (fun _ => none) 0 (some (g 2))) 1 (some (g 3))) 2 (some (g 4))) 3 (some (g 5))) 4 (some (g 6))) 5 (some (g 7))) 6 (some (g 8))) 7 (some (g 9)))))))) :: (a0, .inr (8, [.ref (g 10), .ref (g 0), .ref (g 1), .ref (g 11), .int 0, .int 0, .int (-1)])) :: ((((((((((rdl cs (g 10) (w 10) ++ wd cs (g 0) (w 0)) ++ wd cs (g 1) (w 1)) ++ wd cs (g 2) (w 2)) ++ wd cs (g 3) (w 3)) ++ wd cs (g 4) (w 4)) ++ wd cs (g 5) (w 5)) ++ wd cs (g 6) (w 6)) ++ wd cs (g 7) (w 7)) ++ wd cs (g 8) (w 8)) ++ wd cs (g 9) (w 9))
theorem k14w (l : Launch) (D : va_G) (cs : Nat → ClassId) (sz : Nat) (a0 : Nat) : KV2 l yX7_init wsX7_init 3 65 36 465 D cs sz [.ref a0] [(a0, .inr (7, [.null, .null, .null, .null, .null, .null, .long 0, .int 0, .int 0, .int 0, .int 0, .int 0, .int 0, .int 0, .int 0, .int 0]))] (fun u => wd cs a0 u) := k14_X7_init l D cs sz a0
theorem k1w (l : Launch) (D : va_G) (cs : Nat → ClassId) (sz : Nat) (a0 : Nat) : KV2 l yX5_init wsX5_init 1 20 2 1200 D cs sz [.ref a0] [(a0, .inr (5, [.null, .int 0, .int 0, .int 0, .int 0, .int 0, .int 0, .int 0, .int 0, .null, .int 0, .null, .int 0, .int 0]))] (fun u => rdl cs a0 u) := k1_X5_init l D cs sz a0
theorem k25w (l : Launch) (D : va_G) (cs : Nat → ClassId) (sz : Nat) (a0 : Nat) : KV2 l yX9_init wsX9_init 2 42 14 461021 D cs sz [.ref a0] [(a0, .inr (9, [.int 0, .null, .int 0, .int 0, .int 0, .int 0, .int 0, .int 0, .null, .null, .null, .null, .int 0, .int 0, .int 0, .int 0, .int 0, .null]))] (fun u => m9 cs a0 u) := k25_X9_init l D cs sz a0
set_option maxHeartbeats 4000000 in
set_option maxRecDepth 100000 in
theorem k_X8_init (l : Launch) (D : va_G) (cs : Nat → ClassId) (sz : Nat) (a0 : Nat) : KV2 l yX8_init wsX8_init 4 86 374 6032 D cs sz [.ref a0] [(a0, .inr (8, [.null, .null, .null, .null, .int 0, .int 0, .int 0]))] (fun u : (Nat → Nat) × (Nat → Nat → Nat) => w8 cs a0 u.1 u.2) := by
  refine KV2.of cX8_init 2 none (by decide) rfl (Nat.le_of_ble_eq_true rfl) ?_
  intro p e s m below meth c A ls hx hb hr hml hown hts hlocks hin hP hN hD hA hS hl
  have hown : s.vm.findClass RX8 = some m.cls := hown
  have hl : lv_has ls 2 [(0, .ref a0)] := hl
  refine lv_aload_n hx hb dX8_init_0 rfl (lv_at hl 0 rfl) ?_
  refine W.objInit hx hb hown (hts _ mX8_init_1) (hts _ mX8_init_2) (hts _ mX8_init_3) rfl (by rw [hml]; exact hl.1) rfl dX8_init_1 (Nat.le_of_ble_eq_true rfl) (Nat.le_of_ble_eq_true rfl) ?_
  refine W.eq (g2 := F0 m 4 ls []) rfl ?_
  refine lv_aload_n hx hb dX8_init_4 rfl (lv_at hl 0 rfl) ?_
  refine va_new (ci := 5) (fs := [.null, .int 0, .int 0, .int 0, .int 0, .int 0, .int 0, .int 0, .int 0, .null, .int 0, .null, .int 0, .int 0]) (C := RX5) (T := TX5) (N := 14) hx hb hts iX8_init_5 tyX5 tyX5_ok hown (hts _ mX8_init_4) (hts _ mX8_init_5) (hts _ mX8_init_6) hN.1 hP hD hS hA rfl df5 (Nat.le_of_ble_eq_true rfl) (Nat.le_of_ble_eq_true rfl) dX8_init_5 (fun qr H hP hD hS => ?_)
  refine W.widen (k := 1) (n := 14) (Nat.le_of_ble_eq_true rfl) (Nat.le_of_ble_eq_true rfl) ?_
  refine lv_dup hx hb dX8_init_8 rfl ?_
  refine cn_vH (ws := [(a0, .inr (8, [.null, .null, .null, .null, .int 0, .int 0, .int 0]))]) (As := []) (rest := [.ref qr, .ref a0]) (b := qr) ⟨hx, hb, hml, hown, hts⟩ (fun sz => k1w l D cs sz qr) ⟨va_cnB 0 hts gX8_init_X5_init_n9 rfl rfl rfl (hN.m 0 rfl) (hts _ mX8_init_6) hdX5_init_o ⟨(Nat.le_of_ble_eq_true rfl), (Nat.le_of_ble_eq_true rfl)⟩, rfl, (hts _ mX8_init_15)⟩ hN hP hD hS hA rfl rfl hl.1 (Nat.le_of_ble_eq_true rfl) dX8_init_9 (Nat.le_of_ble_eq_true rfl) (Nat.le_of_ble_eq_true rfl) (fun rv H locs hP hD hS => ?_)
  refine W.widen (k := 3) (n := 1214) (Nat.le_of_ble_eq_true rfl) (Nat.le_of_ble_eq_true rfl) ?_
  have hP : va_P D vwCl ((a0, .inr (8, [.null, .null, .null, .null, .int 0, .int 0, .int 0])) :: rdl cs qr rv) _ := hP
  have hD : va_D A ((a0, .inr (8, [.null, .null, .null, .null, .int 0, .int 0, .int 0])) :: rdl cs qr rv) := hD
  refine va_putF (D := D) (ci := 8) (v := .ref qr) (ty := .object "OneBeat$Reader") (C := RX8) (T := TX8) (N := 7) hx hb hts iX8_init_8 tyX8 tyX8_ok nmX8 hown hN.1 hP hD hS 0 rfl rfl 0 (by decide) (hts _ mX8_init_7) (fun _ h9 => h9) rfl hin rfl (by decide +kernel) rfl rfl (Nat.le_of_ble_eq_true rfl) dX8_init_12 (fun H locs hP hD hS => ?_)
  have hP : va_P D vwCl ((a0, .inr (8, [.ref qr, .null, .null, .null, .int 0, .int 0, .int 0])) :: rdl cs qr rv) _ := hP
  have hD : va_D A ((a0, .inr (8, [.ref qr, .null, .null, .null, .int 0, .int 0, .int 0])) :: rdl cs qr rv) := hD
  refine lv_aload_n hx hb dX8_init_15 rfl (lv_at hl 0 rfl) ?_
  refine va_new (ci := 7) (fs := [.null, .null, .null, .null, .null, .null, .long 0, .int 0, .int 0, .int 0, .int 0, .int 0, .int 0, .int 0, .int 0, .int 0]) (C := RX7) (T := TX7) (N := 16) hx hb hts iX8_init_7 tyX7 tyX7_ok hown (hts _ mX8_init_8) (hts _ mX8_init_9) (hts _ mX8_init_10) hN.1 hP hD hS hA rfl df7 (Nat.le_of_ble_eq_true rfl) (Nat.le_of_ble_eq_true rfl) dX8_init_16 (fun qa H hP hD hS => ?_)
  refine W.widen (k := 4) (n := 1230) (Nat.le_of_ble_eq_true rfl) (Nat.le_of_ble_eq_true rfl) ?_
  refine lv_dup hx hb dX8_init_19 rfl ?_
  refine ci_vH (ws := (a0, .inr (8, [.ref qr, .null, .null, .null, .int 0, .int 0, .int 0])) :: rdl cs qr rv) (As := []) (rest := [.ref qa, .ref a0]) (b := qa) ⟨hx, hb, hml, hown, hts⟩ (fun sz => k14w l D cs sz qa) (cwI 0 hts gX8_init_X7_init rfl rfl rfl (hts _ mX8_init_10) (hts _ mX8_init_22) (hts _ mX8_init_23) rfl hdX7_init_o ⟨(Nat.le_of_ble_eq_true rfl), (Nat.le_of_ble_eq_true rfl)⟩) hN hP hD hS hA rfl rfl hl.1 (Nat.le_of_ble_eq_true rfl) dX8_init_20 (Nat.le_of_ble_eq_true rfl) (Nat.le_of_ble_eq_true rfl) (fun av H locs hP hD hS => ?_)
  refine W.widen (k := 40) (n := 1695) (Nat.le_of_ble_eq_true rfl) (Nat.le_of_ble_eq_true rfl) ?_
  have hP : va_P D vwCl ((a0, .inr (8, [.ref qr, .null, .null, .null, .int 0, .int 0, .int 0])) :: (rdl cs qr rv ++ wd cs qa av)) _ := hP
  have hD : va_D A ((a0, .inr (8, [.ref qr, .null, .null, .null, .int 0, .int 0, .int 0])) :: (rdl cs qr rv ++ wd cs qa av)) := hD
  refine va_putF (D := D) (ci := 8) (v := .ref qa) (ty := .object "OneBeat$World") (C := RX8) (T := TX8) (N := 7) hx hb hts iX8_init_8 tyX8 tyX8_ok nmX8 hown hN.1 hP hD hS 0 rfl rfl 1 (by decide) (hts _ mX8_init_11) (fun _ h9 => h9) rfl hin rfl (by decide +kernel) rfl rfl (Nat.le_of_ble_eq_true rfl) dX8_init_23 (fun H locs hP hD hS => ?_)
  have hP : va_P D vwCl ((a0, .inr (8, [.ref qr, .ref qa, .null, .null, .int 0, .int 0, .int 0])) :: (rdl cs qr rv ++ wd cs qa av)) _ := hP
  have hD : va_D A ((a0, .inr (8, [.ref qr, .ref qa, .null, .null, .int 0, .int 0, .int 0])) :: (rdl cs qr rv ++ wd cs qa av)) := hD
  refine lv_aload_n hx hb dX8_init_26 rfl (lv_at hl 0 rfl) ?_
  refine va_new (ci := 7) (fs := [.null, .null, .null, .null, .null, .null, .long 0, .int 0, .int 0, .int 0, .int 0, .int 0, .int 0, .int 0, .int 0, .int 0]) (C := RX7) (T := TX7) (N := 16) hx hb hts iX8_init_7 tyX7 tyX7_ok hown (hts _ mX8_init_8) (hts _ mX8_init_9) (hts _ mX8_init_10) hN.1 hP hD hS hA rfl df7 (Nat.le_of_ble_eq_true rfl) (Nat.le_of_ble_eq_true rfl) dX8_init_27 (fun qb H hP hD hS => ?_)
  refine W.widen (k := 41) (n := 1711) (Nat.le_of_ble_eq_true rfl) (Nat.le_of_ble_eq_true rfl) ?_
  refine lv_dup hx hb dX8_init_30 rfl ?_
  refine ci_vH (ws := (a0, .inr (8, [.ref qr, .ref qa, .null, .null, .int 0, .int 0, .int 0])) :: (rdl cs qr rv ++ wd cs qa av)) (As := []) (rest := [.ref qb, .ref a0]) (b := qb) ⟨hx, hb, hml, hown, hts⟩ (fun sz => k14w l D cs sz qb) (cwI 0 hts gX8_init_X7_init rfl rfl rfl (hts _ mX8_init_10) (hts _ mX8_init_22) (hts _ mX8_init_23) rfl hdX7_init_o ⟨(Nat.le_of_ble_eq_true rfl), (Nat.le_of_ble_eq_true rfl)⟩) hN hP hD hS hA rfl rfl hl.1 (Nat.le_of_ble_eq_true rfl) dX8_init_31 (Nat.le_of_ble_eq_true rfl) (Nat.le_of_ble_eq_true rfl) (fun bv H locs hP hD hS => ?_)
  refine W.widen (k := 77) (n := 2176) (Nat.le_of_ble_eq_true rfl) (Nat.le_of_ble_eq_true rfl) ?_
  have hP : va_P D vwCl ((a0, .inr (8, [.ref qr, .ref qa, .null, .null, .int 0, .int 0, .int 0])) :: ((rdl cs qr rv ++ wd cs qa av) ++ wd cs qb bv)) _ := hP
  have hD : va_D A ((a0, .inr (8, [.ref qr, .ref qa, .null, .null, .int 0, .int 0, .int 0])) :: ((rdl cs qr rv ++ wd cs qa av) ++ wd cs qb bv)) := hD
  refine va_putF (D := D) (ci := 8) (v := .ref qb) (ty := .object "OneBeat$World") (C := RX8) (T := TX8) (N := 7) hx hb hts iX8_init_8 tyX8 tyX8_ok nmX8 hown hN.1 hP hD hS 0 rfl rfl 2 (by decide) (hts _ mX8_init_12) (fun _ h9 => h9) rfl hin rfl (by decide +kernel) rfl rfl (Nat.le_of_ble_eq_true rfl) dX8_init_34 (fun H locs hP hD hS => ?_)
  have hP : va_P D vwCl ((a0, .inr (8, [.ref qr, .ref qa, .ref qb, .null, .int 0, .int 0, .int 0])) :: ((rdl cs qr rv ++ wd cs qa av) ++ wd cs qb bv)) _ := hP
  have hD : va_D A ((a0, .inr (8, [.ref qr, .ref qa, .ref qb, .null, .int 0, .int 0, .int 0])) :: ((rdl cs qr rv ++ wd cs qa av) ++ wd cs qb bv)) := hD
  refine lv_aload_n hx hb dX8_init_37 rfl (lv_at hl 0 rfl) ?_
  refine lv_bipush (v := 8) hx hb dX8_init_38 (by decide) ?_
  refine na_q (C := RX7) (N' := 8) 5 hN rfl hx hb hown (hts _ mX8_init_8) hN.2.2.2.2.1 hP hD hS hA (by decide) (by decide) (by decide) (Nat.le_of_ble_eq_true rfl) (Nat.le_of_ble_eq_true rfl) dX8_init_40 (fun pa H hP hD hS => ?_)
  refine W.widen (k := 78) (n := 2184) (Nat.le_of_ble_eq_true rfl) (Nat.le_of_ble_eq_true rfl) ?_
  have hP := rot_P hP
  have hD := rot_D hD
  have hP : va_P D vwCl ((pa, .inl (cs 5, 8, .inr (.inr (.inr (.inr (fun _ => none)))))) :: (a0, .inr (8, [.ref qr, .ref qa, .ref qb, .null, .int 0, .int 0, .int 0])) :: ((rdl cs qr rv ++ wd cs qa av) ++ wd cs qb bv)) _ := hP
  have hD : va_D A ((pa, .inl (cs 5, 8, .inr (.inr (.inr (.inr (fun _ => none)))))) :: (a0, .inr (8, [.ref qr, .ref qa, .ref qb, .null, .int 0, .int 0, .int 0])) :: ((rdl cs qr rv ++ wd cs qa av) ++ wd cs qb bv)) := hD
  refine va_putF (D := D) (ci := 8) (v := .ref pa) (ty := .array (.object "OneBeat$World")) (C := RX8) (T := TX8) (N := 7) hx hb hts iX8_init_8 tyX8 tyX8_ok nmX8 hown hN.1 hP hD hS 1 rfl rfl 3 (by decide) (hts _ mX8_init_13) (fun _ h9 => h9) rfl hin rfl (by decide +kernel) rfl rfl (Nat.le_of_ble_eq_true rfl) dX8_init_43 (fun H locs hP hD hS => ?_)
  have hP : va_P D vwCl ((pa, .inl (cs 5, 8, .inr (.inr (.inr (.inr (fun _ => none)))))) :: (a0, .inr (8, [.ref qr, .ref qa, .ref qb, .ref pa, .int 0, .int 0, .int 0])) :: ((rdl cs qr rv ++ wd cs qa av) ++ wd cs qb bv)) _ := hP
  have hD : va_D A ((pa, .inl (cs 5, 8, .inr (.inr (.inr (.inr (fun _ => none)))))) :: (a0, .inr (8, [.ref qr, .ref qa, .ref qb, .ref pa, .int 0, .int 0, .int 0])) :: ((rdl cs qr rv ++ wd cs qa av) ++ wd cs qb bv)) := hD
  refine lv_aload_n hx hb dX8_init_46 rfl (lv_at hl 0 rfl) ?_
  refine lv_iconst (v := (-1)) hx hb dX8_init_47 (by decide) ?_
  refine va_put (D := D) (ci := 8) (v := .int (-1)) (ty := .int) (C := RX8) (T := TX8) (N := 7) hx hb hts iX8_init_8 tyX8 tyX8_ok nmX8 hown hN.1 hP hD hS 1 rfl rfl 6 (by decide) (hts _ mX8_init_14) (fun _ h9 => h9) rfl (by decide +kernel) rfl rfl (Nat.le_of_ble_eq_true rfl) dX8_init_48 (fun H locs hP hD hS => ?_)
  have hP : va_P D vwCl ((pa, .inl (cs 5, 8, .inr (.inr (.inr (.inr (fun _ => none)))))) :: (a0, .inr (8, [.ref qr, .ref qa, .ref qb, .ref pa, .int 0, .int 0, .int (-1)])) :: ((rdl cs qr rv ++ wd cs qa av) ++ wd cs qb bv)) _ := hP
  have hD : va_D A ((pa, .inl (cs 5, 8, .inr (.inr (.inr (.inr (fun _ => none)))))) :: (a0, .inr (8, [.ref qr, .ref qa, .ref qb, .ref pa, .int 0, .int 0, .int (-1)])) :: ((rdl cs qr rv ++ wd cs qa av) ++ wd cs qb bv)) := hD
  refine lv_iconst (v := 0) hx hb dX8_init_51 (by decide) ?_
  refine lv_istore_n (lv' := [(1, .int 0), (0, .ref a0)]) hx hb dX8_init_52 rfl hl (by decide) rfl (fun ls hl => ?_)
  refine lv_iload_n hx hb dX8_init_53 rfl (lv_at hl 0 rfl) ?_
  refine lv_aload_n hx hb dX8_init_54 rfl (lv_at hl 1 rfl) ?_
  refine va_get (D := D) (ci := 8) (v := .ref pa) (C := RX8) (T := TX8) (N := 7) hx hb hts iX8_init_8 hown hN.1 hP 1 rfl rfl 3 (by decide) (hts _ mX8_init_13) (fun _ h9 => h9) rfl dX8_init_55 ?_
  refine va_alen (v := 8) hx hb hN.1 hP 0 5 rfl rfl rfl dX8_init_58 ?_
  refine lv_icmp_ge (tgt := 81) hx hb dX8_init_59 (by decide) (fun c9 => absurd c9 (by decide)) (fun _ => ?_)
  refine lv_aload_n hx hb dX8_init_62 rfl (lv_at hl 1 rfl) ?_
  refine va_get (D := D) (ci := 8) (v := .ref pa) (C := RX8) (T := TX8) (N := 7) hx hb hts iX8_init_8 hown hN.1 hP 1 rfl rfl 3 (by decide) (hts _ mX8_init_13) (fun _ h9 => h9) rfl dX8_init_63 ?_
  refine lv_iload_n hx hb dX8_init_66 rfl (lv_at hl 0 rfl) ?_
  refine va_new (ci := 7) (fs := [.null, .null, .null, .null, .null, .null, .long 0, .int 0, .int 0, .int 0, .int 0, .int 0, .int 0, .int 0, .int 0, .int 0]) (C := RX7) (T := TX7) (N := 16) hx hb hts iX8_init_7 tyX7 tyX7_ok hown (hts _ mX8_init_8) (hts _ mX8_init_9) (hts _ mX8_init_10) hN.1 hP hD hS hA rfl df7 (Nat.le_of_ble_eq_true rfl) (Nat.le_of_ble_eq_true rfl) dX8_init_67 (fun q0 H hP hD hS => ?_)
  refine W.widen (k := 79) (n := 2200) (Nat.le_of_ble_eq_true rfl) (Nat.le_of_ble_eq_true rfl) ?_
  refine lv_dup hx hb dX8_init_70 rfl ?_
  refine ci_vH (ws := (pa, .inl (cs 5, 8, .inr (.inr (.inr (.inr (fun _ => none)))))) :: (a0, .inr (8, [.ref qr, .ref qa, .ref qb, .ref pa, .int 0, .int 0, .int (-1)])) :: ((rdl cs qr rv ++ wd cs qa av) ++ wd cs qb bv)) (As := []) (rest := [.ref q0, .int 0, .ref pa]) (b := q0) ⟨hx, hb, hml, hown, hts⟩ (fun sz => k14w l D cs sz q0) (cwI 0 hts gX8_init_X7_init rfl rfl rfl (hts _ mX8_init_10) (hts _ mX8_init_22) (hts _ mX8_init_23) rfl hdX7_init_o ⟨(Nat.le_of_ble_eq_true rfl), (Nat.le_of_ble_eq_true rfl)⟩) hN hP hD hS hA rfl rfl hl.1 (Nat.le_of_ble_eq_true rfl) dX8_init_71 (Nat.le_of_ble_eq_true rfl) (Nat.le_of_ble_eq_true rfl) (fun v0 H locs hP hD hS => ?_)
  refine W.widen (k := 115) (n := 2665) (Nat.le_of_ble_eq_true rfl) (Nat.le_of_ble_eq_true rfl) ?_
  have hP : va_P D vwCl ((pa, .inl (cs 5, 8, .inr (.inr (.inr (.inr (fun _ => none)))))) :: (a0, .inr (8, [.ref qr, .ref qa, .ref qb, .ref pa, .int 0, .int 0, .int (-1)])) :: (((rdl cs qr rv ++ wd cs qa av) ++ wd cs qb bv) ++ wd cs q0 v0)) _ := hP
  have hD : va_D A ((pa, .inl (cs 5, 8, .inr (.inr (.inr (.inr (fun _ => none)))))) :: (a0, .inr (8, [.ref qr, .ref qa, .ref qb, .ref pa, .int 0, .int 0, .int (-1)])) :: (((rdl cs qr rv ++ wd cs qa av) ++ wd cs qb bv) ++ wd cs q0 v0)) := hD
  refine st_w (g := (va_up (fun _ => none) 0 (some q0))) hx hb hN hP hD hS 0 rfl (List.length (α := Nat × va_E) ((rdl cs qr rv ++ wd cs qa av) ++ wd cs qb bv) + 24 + 2) (at_app2 (t := ((rdl cs qr rv ++ wd cs qa av) ++ wd cs qb bv)) rfl) (vin (by decide +kernel)) rfl dX8_init_74 (fun H locs hP hD hS => ?_)
  have hP : va_P D vwCl ((pa, .inl (cs 5, 8, .inr (.inr (.inr (.inr (va_up (fun _ => none) 0 (some q0))))))) :: (a0, .inr (8, [.ref qr, .ref qa, .ref qb, .ref pa, .int 0, .int 0, .int (-1)])) :: (((rdl cs qr rv ++ wd cs qa av) ++ wd cs qb bv) ++ wd cs q0 v0)) _ := hP
  have hD : va_D A ((pa, .inl (cs 5, 8, .inr (.inr (.inr (.inr (va_up (fun _ => none) 0 (some q0))))))) :: (a0, .inr (8, [.ref qr, .ref qa, .ref qb, .ref pa, .int 0, .int 0, .int (-1)])) :: (((rdl cs qr rv ++ wd cs qa av) ++ wd cs qb bv) ++ wd cs q0 v0)) := hD
  refine lv_iinc (v := 1) (lv' := [(1, .int 1), (0, .ref a0)]) hx hb dX8_init_75 hl (k := 0) rfl (by decide) (by decide) rfl (fun ls hl => ?_)
  refine lv_goto (tgt := 53) hx hb dX8_init_78 (by decide) ?_
  refine lv_iload_n hx hb dX8_init_53 rfl (lv_at hl 0 rfl) ?_
  refine lv_aload_n hx hb dX8_init_54 rfl (lv_at hl 1 rfl) ?_
  refine va_get (D := D) (ci := 8) (v := .ref pa) (C := RX8) (T := TX8) (N := 7) hx hb hts iX8_init_8 hown hN.1 hP 1 rfl rfl 3 (by decide) (hts _ mX8_init_13) (fun _ h9 => h9) rfl dX8_init_55 ?_
  refine va_alen (v := 8) hx hb hN.1 hP 0 5 rfl rfl rfl dX8_init_58 ?_
  refine lv_icmp_ge (tgt := 81) hx hb dX8_init_59 (by decide) (fun c9 => absurd c9 (by decide)) (fun _ => ?_)
  refine lv_aload_n hx hb dX8_init_62 rfl (lv_at hl 1 rfl) ?_
  refine va_get (D := D) (ci := 8) (v := .ref pa) (C := RX8) (T := TX8) (N := 7) hx hb hts iX8_init_8 hown hN.1 hP 1 rfl rfl 3 (by decide) (hts _ mX8_init_13) (fun _ h9 => h9) rfl dX8_init_63 ?_
  refine lv_iload_n hx hb dX8_init_66 rfl (lv_at hl 0 rfl) ?_
  refine va_new (ci := 7) (fs := [.null, .null, .null, .null, .null, .null, .long 0, .int 0, .int 0, .int 0, .int 0, .int 0, .int 0, .int 0, .int 0, .int 0]) (C := RX7) (T := TX7) (N := 16) hx hb hts iX8_init_7 tyX7 tyX7_ok hown (hts _ mX8_init_8) (hts _ mX8_init_9) (hts _ mX8_init_10) hN.1 hP hD hS hA rfl df7 (Nat.le_of_ble_eq_true rfl) (Nat.le_of_ble_eq_true rfl) dX8_init_67 (fun q1 H hP hD hS => ?_)
  refine W.widen (k := 116) (n := 2681) (Nat.le_of_ble_eq_true rfl) (Nat.le_of_ble_eq_true rfl) ?_
  refine lv_dup hx hb dX8_init_70 rfl ?_
  refine ci_vH (ws := (pa, .inl (cs 5, 8, .inr (.inr (.inr (.inr (va_up (fun _ => none) 0 (some q0))))))) :: (a0, .inr (8, [.ref qr, .ref qa, .ref qb, .ref pa, .int 0, .int 0, .int (-1)])) :: (((rdl cs qr rv ++ wd cs qa av) ++ wd cs qb bv) ++ wd cs q0 v0)) (As := []) (rest := [.ref q1, .int 1, .ref pa]) (b := q1) ⟨hx, hb, hml, hown, hts⟩ (fun sz => k14w l D cs sz q1) (cwI 0 hts gX8_init_X7_init rfl rfl rfl (hts _ mX8_init_10) (hts _ mX8_init_22) (hts _ mX8_init_23) rfl hdX7_init_o ⟨(Nat.le_of_ble_eq_true rfl), (Nat.le_of_ble_eq_true rfl)⟩) hN hP hD hS hA rfl rfl hl.1 (Nat.le_of_ble_eq_true rfl) dX8_init_71 (Nat.le_of_ble_eq_true rfl) (Nat.le_of_ble_eq_true rfl) (fun v1 H locs hP hD hS => ?_)
  refine W.widen (k := 152) (n := 3146) (Nat.le_of_ble_eq_true rfl) (Nat.le_of_ble_eq_true rfl) ?_
  have hP : va_P D vwCl ((pa, .inl (cs 5, 8, .inr (.inr (.inr (.inr (va_up (fun _ => none) 0 (some q0))))))) :: (a0, .inr (8, [.ref qr, .ref qa, .ref qb, .ref pa, .int 0, .int 0, .int (-1)])) :: ((((rdl cs qr rv ++ wd cs qa av) ++ wd cs qb bv) ++ wd cs q0 v0) ++ wd cs q1 v1)) _ := hP
  have hD : va_D A ((pa, .inl (cs 5, 8, .inr (.inr (.inr (.inr (va_up (fun _ => none) 0 (some q0))))))) :: (a0, .inr (8, [.ref qr, .ref qa, .ref qb, .ref pa, .int 0, .int 0, .int (-1)])) :: ((((rdl cs qr rv ++ wd cs qa av) ++ wd cs qb bv) ++ wd cs q0 v0) ++ wd cs q1 v1)) := hD
  refine st_w (g := (va_up (va_up (fun _ => none) 0 (some q0)) 1 (some q1))) hx hb hN hP hD hS 0 rfl (List.length (α := Nat × va_E) (((rdl cs qr rv ++ wd cs qa av) ++ wd cs qb bv) ++ wd cs q0 v0) + 24 + 2) (at_app2 (t := (((rdl cs qr rv ++ wd cs qa av) ++ wd cs qb bv) ++ wd cs q0 v0)) rfl) (vin (by decide +kernel)) rfl dX8_init_74 (fun H locs hP hD hS => ?_)
  have hP : va_P D vwCl ((pa, .inl (cs 5, 8, .inr (.inr (.inr (.inr (va_up (va_up (fun _ => none) 0 (some q0)) 1 (some q1))))))) :: (a0, .inr (8, [.ref qr, .ref qa, .ref qb, .ref pa, .int 0, .int 0, .int (-1)])) :: ((((rdl cs qr rv ++ wd cs qa av) ++ wd cs qb bv) ++ wd cs q0 v0) ++ wd cs q1 v1)) _ := hP
  have hD : va_D A ((pa, .inl (cs 5, 8, .inr (.inr (.inr (.inr (va_up (va_up (fun _ => none) 0 (some q0)) 1 (some q1))))))) :: (a0, .inr (8, [.ref qr, .ref qa, .ref qb, .ref pa, .int 0, .int 0, .int (-1)])) :: ((((rdl cs qr rv ++ wd cs qa av) ++ wd cs qb bv) ++ wd cs q0 v0) ++ wd cs q1 v1)) := hD
  refine lv_iinc (v := 2) (lv' := [(1, .int 2), (0, .ref a0)]) hx hb dX8_init_75 hl (k := 0) rfl (by decide) (by decide) rfl (fun ls hl => ?_)
  refine lv_goto (tgt := 53) hx hb dX8_init_78 (by decide) ?_
  refine lv_iload_n hx hb dX8_init_53 rfl (lv_at hl 0 rfl) ?_
  refine lv_aload_n hx hb dX8_init_54 rfl (lv_at hl 1 rfl) ?_
  refine va_get (D := D) (ci := 8) (v := .ref pa) (C := RX8) (T := TX8) (N := 7) hx hb hts iX8_init_8 hown hN.1 hP 1 rfl rfl 3 (by decide) (hts _ mX8_init_13) (fun _ h9 => h9) rfl dX8_init_55 ?_
  refine va_alen (v := 8) hx hb hN.1 hP 0 5 rfl rfl rfl dX8_init_58 ?_
  refine lv_icmp_ge (tgt := 81) hx hb dX8_init_59 (by decide) (fun c9 => absurd c9 (by decide)) (fun _ => ?_)
  refine lv_aload_n hx hb dX8_init_62 rfl (lv_at hl 1 rfl) ?_
  refine va_get (D := D) (ci := 8) (v := .ref pa) (C := RX8) (T := TX8) (N := 7) hx hb hts iX8_init_8 hown hN.1 hP 1 rfl rfl 3 (by decide) (hts _ mX8_init_13) (fun _ h9 => h9) rfl dX8_init_63 ?_
  refine lv_iload_n hx hb dX8_init_66 rfl (lv_at hl 0 rfl) ?_
  refine va_new (ci := 7) (fs := [.null, .null, .null, .null, .null, .null, .long 0, .int 0, .int 0, .int 0, .int 0, .int 0, .int 0, .int 0, .int 0, .int 0]) (C := RX7) (T := TX7) (N := 16) hx hb hts iX8_init_7 tyX7 tyX7_ok hown (hts _ mX8_init_8) (hts _ mX8_init_9) (hts _ mX8_init_10) hN.1 hP hD hS hA rfl df7 (Nat.le_of_ble_eq_true rfl) (Nat.le_of_ble_eq_true rfl) dX8_init_67 (fun q2 H hP hD hS => ?_)
  refine W.widen (k := 153) (n := 3162) (Nat.le_of_ble_eq_true rfl) (Nat.le_of_ble_eq_true rfl) ?_
  refine lv_dup hx hb dX8_init_70 rfl ?_
  refine ci_vH (ws := (pa, .inl (cs 5, 8, .inr (.inr (.inr (.inr (va_up (va_up (fun _ => none) 0 (some q0)) 1 (some q1))))))) :: (a0, .inr (8, [.ref qr, .ref qa, .ref qb, .ref pa, .int 0, .int 0, .int (-1)])) :: ((((rdl cs qr rv ++ wd cs qa av) ++ wd cs qb bv) ++ wd cs q0 v0) ++ wd cs q1 v1)) (As := []) (rest := [.ref q2, .int 2, .ref pa]) (b := q2) ⟨hx, hb, hml, hown, hts⟩ (fun sz => k14w l D cs sz q2) (cwI 0 hts gX8_init_X7_init rfl rfl rfl (hts _ mX8_init_10) (hts _ mX8_init_22) (hts _ mX8_init_23) rfl hdX7_init_o ⟨(Nat.le_of_ble_eq_true rfl), (Nat.le_of_ble_eq_true rfl)⟩) hN hP hD hS hA rfl rfl hl.1 (Nat.le_of_ble_eq_true rfl) dX8_init_71 (Nat.le_of_ble_eq_true rfl) (Nat.le_of_ble_eq_true rfl) (fun v2 H locs hP hD hS => ?_)
  refine W.widen (k := 189) (n := 3627) (Nat.le_of_ble_eq_true rfl) (Nat.le_of_ble_eq_true rfl) ?_
  have hP : va_P D vwCl ((pa, .inl (cs 5, 8, .inr (.inr (.inr (.inr (va_up (va_up (fun _ => none) 0 (some q0)) 1 (some q1))))))) :: (a0, .inr (8, [.ref qr, .ref qa, .ref qb, .ref pa, .int 0, .int 0, .int (-1)])) :: (((((rdl cs qr rv ++ wd cs qa av) ++ wd cs qb bv) ++ wd cs q0 v0) ++ wd cs q1 v1) ++ wd cs q2 v2)) _ := hP
  have hD : va_D A ((pa, .inl (cs 5, 8, .inr (.inr (.inr (.inr (va_up (va_up (fun _ => none) 0 (some q0)) 1 (some q1))))))) :: (a0, .inr (8, [.ref qr, .ref qa, .ref qb, .ref pa, .int 0, .int 0, .int (-1)])) :: (((((rdl cs qr rv ++ wd cs qa av) ++ wd cs qb bv) ++ wd cs q0 v0) ++ wd cs q1 v1) ++ wd cs q2 v2)) := hD
  refine st_w (g := (va_up (va_up (va_up (fun _ => none) 0 (some q0)) 1 (some q1)) 2 (some q2))) hx hb hN hP hD hS 0 rfl (List.length (α := Nat × va_E) ((((rdl cs qr rv ++ wd cs qa av) ++ wd cs qb bv) ++ wd cs q0 v0) ++ wd cs q1 v1) + 24 + 2) (at_app2 (t := ((((rdl cs qr rv ++ wd cs qa av) ++ wd cs qb bv) ++ wd cs q0 v0) ++ wd cs q1 v1)) rfl) (vin (by decide +kernel)) rfl dX8_init_74 (fun H locs hP hD hS => ?_)
  have hP : va_P D vwCl ((pa, .inl (cs 5, 8, .inr (.inr (.inr (.inr (va_up (va_up (va_up (fun _ => none) 0 (some q0)) 1 (some q1)) 2 (some q2))))))) :: (a0, .inr (8, [.ref qr, .ref qa, .ref qb, .ref pa, .int 0, .int 0, .int (-1)])) :: (((((rdl cs qr rv ++ wd cs qa av) ++ wd cs qb bv) ++ wd cs q0 v0) ++ wd cs q1 v1) ++ wd cs q2 v2)) _ := hP
  have hD : va_D A ((pa, .inl (cs 5, 8, .inr (.inr (.inr (.inr (va_up (va_up (va_up (fun _ => none) 0 (some q0)) 1 (some q1)) 2 (some q2))))))) :: (a0, .inr (8, [.ref qr, .ref qa, .ref qb, .ref pa, .int 0, .int 0, .int (-1)])) :: (((((rdl cs qr rv ++ wd cs qa av) ++ wd cs qb bv) ++ wd cs q0 v0) ++ wd cs q1 v1) ++ wd cs q2 v2)) := hD
  refine lv_iinc (v := 3) (lv' := [(1, .int 3), (0, .ref a0)]) hx hb dX8_init_75 hl (k := 0) rfl (by decide) (by decide) rfl (fun ls hl => ?_)
  refine lv_goto (tgt := 53) hx hb dX8_init_78 (by decide) ?_
  refine lv_iload_n hx hb dX8_init_53 rfl (lv_at hl 0 rfl) ?_
  refine lv_aload_n hx hb dX8_init_54 rfl (lv_at hl 1 rfl) ?_
  refine va_get (D := D) (ci := 8) (v := .ref pa) (C := RX8) (T := TX8) (N := 7) hx hb hts iX8_init_8 hown hN.1 hP 1 rfl rfl 3 (by decide) (hts _ mX8_init_13) (fun _ h9 => h9) rfl dX8_init_55 ?_
  refine va_alen (v := 8) hx hb hN.1 hP 0 5 rfl rfl rfl dX8_init_58 ?_
  refine lv_icmp_ge (tgt := 81) hx hb dX8_init_59 (by decide) (fun c9 => absurd c9 (by decide)) (fun _ => ?_)
  refine lv_aload_n hx hb dX8_init_62 rfl (lv_at hl 1 rfl) ?_
  refine va_get (D := D) (ci := 8) (v := .ref pa) (C := RX8) (T := TX8) (N := 7) hx hb hts iX8_init_8 hown hN.1 hP 1 rfl rfl 3 (by decide) (hts _ mX8_init_13) (fun _ h9 => h9) rfl dX8_init_63 ?_
  refine lv_iload_n hx hb dX8_init_66 rfl (lv_at hl 0 rfl) ?_
  refine va_new (ci := 7) (fs := [.null, .null, .null, .null, .null, .null, .long 0, .int 0, .int 0, .int 0, .int 0, .int 0, .int 0, .int 0, .int 0, .int 0]) (C := RX7) (T := TX7) (N := 16) hx hb hts iX8_init_7 tyX7 tyX7_ok hown (hts _ mX8_init_8) (hts _ mX8_init_9) (hts _ mX8_init_10) hN.1 hP hD hS hA rfl df7 (Nat.le_of_ble_eq_true rfl) (Nat.le_of_ble_eq_true rfl) dX8_init_67 (fun q3 H hP hD hS => ?_)
  refine W.widen (k := 190) (n := 3643) (Nat.le_of_ble_eq_true rfl) (Nat.le_of_ble_eq_true rfl) ?_
  refine lv_dup hx hb dX8_init_70 rfl ?_
  refine ci_vH (ws := (pa, .inl (cs 5, 8, .inr (.inr (.inr (.inr (va_up (va_up (va_up (fun _ => none) 0 (some q0)) 1 (some q1)) 2 (some q2))))))) :: (a0, .inr (8, [.ref qr, .ref qa, .ref qb, .ref pa, .int 0, .int 0, .int (-1)])) :: (((((rdl cs qr rv ++ wd cs qa av) ++ wd cs qb bv) ++ wd cs q0 v0) ++ wd cs q1 v1) ++ wd cs q2 v2)) (As := []) (rest := [.ref q3, .int 3, .ref pa]) (b := q3) ⟨hx, hb, hml, hown, hts⟩ (fun sz => k14w l D cs sz q3) (cwI 0 hts gX8_init_X7_init rfl rfl rfl (hts _ mX8_init_10) (hts _ mX8_init_22) (hts _ mX8_init_23) rfl hdX7_init_o ⟨(Nat.le_of_ble_eq_true rfl), (Nat.le_of_ble_eq_true rfl)⟩) hN hP hD hS hA rfl rfl hl.1 (Nat.le_of_ble_eq_true rfl) dX8_init_71 (Nat.le_of_ble_eq_true rfl) (Nat.le_of_ble_eq_true rfl) (fun v3 H locs hP hD hS => ?_)
  refine W.widen (k := 226) (n := 4108) (Nat.le_of_ble_eq_true rfl) (Nat.le_of_ble_eq_true rfl) ?_
  have hP : va_P D vwCl ((pa, .inl (cs 5, 8, .inr (.inr (.inr (.inr (va_up (va_up (va_up (fun _ => none) 0 (some q0)) 1 (some q1)) 2 (some q2))))))) :: (a0, .inr (8, [.ref qr, .ref qa, .ref qb, .ref pa, .int 0, .int 0, .int (-1)])) :: ((((((rdl cs qr rv ++ wd cs qa av) ++ wd cs qb bv) ++ wd cs q0 v0) ++ wd cs q1 v1) ++ wd cs q2 v2) ++ wd cs q3 v3)) _ := hP
  have hD : va_D A ((pa, .inl (cs 5, 8, .inr (.inr (.inr (.inr (va_up (va_up (va_up (fun _ => none) 0 (some q0)) 1 (some q1)) 2 (some q2))))))) :: (a0, .inr (8, [.ref qr, .ref qa, .ref qb, .ref pa, .int 0, .int 0, .int (-1)])) :: ((((((rdl cs qr rv ++ wd cs qa av) ++ wd cs qb bv) ++ wd cs q0 v0) ++ wd cs q1 v1) ++ wd cs q2 v2) ++ wd cs q3 v3)) := hD
  refine st_w (g := (va_up (va_up (va_up (va_up (fun _ => none) 0 (some q0)) 1 (some q1)) 2 (some q2)) 3 (some q3))) hx hb hN hP hD hS 0 rfl (List.length (α := Nat × va_E) (((((rdl cs qr rv ++ wd cs qa av) ++ wd cs qb bv) ++ wd cs q0 v0) ++ wd cs q1 v1) ++ wd cs q2 v2) + 24 + 2) (at_app2 (t := (((((rdl cs qr rv ++ wd cs qa av) ++ wd cs qb bv) ++ wd cs q0 v0) ++ wd cs q1 v1) ++ wd cs q2 v2)) rfl) (vin (by decide +kernel)) rfl dX8_init_74 (fun H locs hP hD hS => ?_)
  have hP : va_P D vwCl ((pa, .inl (cs 5, 8, .inr (.inr (.inr (.inr (va_up (va_up (va_up (va_up (fun _ => none) 0 (some q0)) 1 (some q1)) 2 (some q2)) 3 (some q3))))))) :: (a0, .inr (8, [.ref qr, .ref qa, .ref qb, .ref pa, .int 0, .int 0, .int (-1)])) :: ((((((rdl cs qr rv ++ wd cs qa av) ++ wd cs qb bv) ++ wd cs q0 v0) ++ wd cs q1 v1) ++ wd cs q2 v2) ++ wd cs q3 v3)) _ := hP
  have hD : va_D A ((pa, .inl (cs 5, 8, .inr (.inr (.inr (.inr (va_up (va_up (va_up (va_up (fun _ => none) 0 (some q0)) 1 (some q1)) 2 (some q2)) 3 (some q3))))))) :: (a0, .inr (8, [.ref qr, .ref qa, .ref qb, .ref pa, .int 0, .int 0, .int (-1)])) :: ((((((rdl cs qr rv ++ wd cs qa av) ++ wd cs qb bv) ++ wd cs q0 v0) ++ wd cs q1 v1) ++ wd cs q2 v2) ++ wd cs q3 v3)) := hD
  refine lv_iinc (v := 4) (lv' := [(1, .int 4), (0, .ref a0)]) hx hb dX8_init_75 hl (k := 0) rfl (by decide) (by decide) rfl (fun ls hl => ?_)
  refine lv_goto (tgt := 53) hx hb dX8_init_78 (by decide) ?_
  refine lv_iload_n hx hb dX8_init_53 rfl (lv_at hl 0 rfl) ?_
  refine lv_aload_n hx hb dX8_init_54 rfl (lv_at hl 1 rfl) ?_
  refine va_get (D := D) (ci := 8) (v := .ref pa) (C := RX8) (T := TX8) (N := 7) hx hb hts iX8_init_8 hown hN.1 hP 1 rfl rfl 3 (by decide) (hts _ mX8_init_13) (fun _ h9 => h9) rfl dX8_init_55 ?_
  refine va_alen (v := 8) hx hb hN.1 hP 0 5 rfl rfl rfl dX8_init_58 ?_
  refine lv_icmp_ge (tgt := 81) hx hb dX8_init_59 (by decide) (fun c9 => absurd c9 (by decide)) (fun _ => ?_)
  refine lv_aload_n hx hb dX8_init_62 rfl (lv_at hl 1 rfl) ?_
  refine va_get (D := D) (ci := 8) (v := .ref pa) (C := RX8) (T := TX8) (N := 7) hx hb hts iX8_init_8 hown hN.1 hP 1 rfl rfl 3 (by decide) (hts _ mX8_init_13) (fun _ h9 => h9) rfl dX8_init_63 ?_
  refine lv_iload_n hx hb dX8_init_66 rfl (lv_at hl 0 rfl) ?_
  refine va_new (ci := 7) (fs := [.null, .null, .null, .null, .null, .null, .long 0, .int 0, .int 0, .int 0, .int 0, .int 0, .int 0, .int 0, .int 0, .int 0]) (C := RX7) (T := TX7) (N := 16) hx hb hts iX8_init_7 tyX7 tyX7_ok hown (hts _ mX8_init_8) (hts _ mX8_init_9) (hts _ mX8_init_10) hN.1 hP hD hS hA rfl df7 (Nat.le_of_ble_eq_true rfl) (Nat.le_of_ble_eq_true rfl) dX8_init_67 (fun q4 H hP hD hS => ?_)
  refine W.widen (k := 227) (n := 4124) (Nat.le_of_ble_eq_true rfl) (Nat.le_of_ble_eq_true rfl) ?_
  refine lv_dup hx hb dX8_init_70 rfl ?_
  refine ci_vH (ws := (pa, .inl (cs 5, 8, .inr (.inr (.inr (.inr (va_up (va_up (va_up (va_up (fun _ => none) 0 (some q0)) 1 (some q1)) 2 (some q2)) 3 (some q3))))))) :: (a0, .inr (8, [.ref qr, .ref qa, .ref qb, .ref pa, .int 0, .int 0, .int (-1)])) :: ((((((rdl cs qr rv ++ wd cs qa av) ++ wd cs qb bv) ++ wd cs q0 v0) ++ wd cs q1 v1) ++ wd cs q2 v2) ++ wd cs q3 v3)) (As := []) (rest := [.ref q4, .int 4, .ref pa]) (b := q4) ⟨hx, hb, hml, hown, hts⟩ (fun sz => k14w l D cs sz q4) (cwI 0 hts gX8_init_X7_init rfl rfl rfl (hts _ mX8_init_10) (hts _ mX8_init_22) (hts _ mX8_init_23) rfl hdX7_init_o ⟨(Nat.le_of_ble_eq_true rfl), (Nat.le_of_ble_eq_true rfl)⟩) hN hP hD hS hA rfl rfl hl.1 (Nat.le_of_ble_eq_true rfl) dX8_init_71 (Nat.le_of_ble_eq_true rfl) (Nat.le_of_ble_eq_true rfl) (fun v4 H locs hP hD hS => ?_)
  refine W.widen (k := 263) (n := 4589) (Nat.le_of_ble_eq_true rfl) (Nat.le_of_ble_eq_true rfl) ?_
  have hP : va_P D vwCl ((pa, .inl (cs 5, 8, .inr (.inr (.inr (.inr (va_up (va_up (va_up (va_up (fun _ => none) 0 (some q0)) 1 (some q1)) 2 (some q2)) 3 (some q3))))))) :: (a0, .inr (8, [.ref qr, .ref qa, .ref qb, .ref pa, .int 0, .int 0, .int (-1)])) :: (((((((rdl cs qr rv ++ wd cs qa av) ++ wd cs qb bv) ++ wd cs q0 v0) ++ wd cs q1 v1) ++ wd cs q2 v2) ++ wd cs q3 v3) ++ wd cs q4 v4)) _ := hP
  have hD : va_D A ((pa, .inl (cs 5, 8, .inr (.inr (.inr (.inr (va_up (va_up (va_up (va_up (fun _ => none) 0 (some q0)) 1 (some q1)) 2 (some q2)) 3 (some q3))))))) :: (a0, .inr (8, [.ref qr, .ref qa, .ref qb, .ref pa, .int 0, .int 0, .int (-1)])) :: (((((((rdl cs qr rv ++ wd cs qa av) ++ wd cs qb bv) ++ wd cs q0 v0) ++ wd cs q1 v1) ++ wd cs q2 v2) ++ wd cs q3 v3) ++ wd cs q4 v4)) := hD
  refine st_w (g := (va_up (va_up (va_up (va_up (va_up (fun _ => none) 0 (some q0)) 1 (some q1)) 2 (some q2)) 3 (some q3)) 4 (some q4))) hx hb hN hP hD hS 0 rfl (List.length (α := Nat × va_E) ((((((rdl cs qr rv ++ wd cs qa av) ++ wd cs qb bv) ++ wd cs q0 v0) ++ wd cs q1 v1) ++ wd cs q2 v2) ++ wd cs q3 v3) + 24 + 2) (at_app2 (t := ((((((rdl cs qr rv ++ wd cs qa av) ++ wd cs qb bv) ++ wd cs q0 v0) ++ wd cs q1 v1) ++ wd cs q2 v2) ++ wd cs q3 v3)) rfl) (vin (by decide +kernel)) rfl dX8_init_74 (fun H locs hP hD hS => ?_)
  have hP : va_P D vwCl ((pa, .inl (cs 5, 8, .inr (.inr (.inr (.inr (va_up (va_up (va_up (va_up (va_up (fun _ => none) 0 (some q0)) 1 (some q1)) 2 (some q2)) 3 (some q3)) 4 (some q4))))))) :: (a0, .inr (8, [.ref qr, .ref qa, .ref qb, .ref pa, .int 0, .int 0, .int (-1)])) :: (((((((rdl cs qr rv ++ wd cs qa av) ++ wd cs qb bv) ++ wd cs q0 v0) ++ wd cs q1 v1) ++ wd cs q2 v2) ++ wd cs q3 v3) ++ wd cs q4 v4)) _ := hP
  have hD : va_D A ((pa, .inl (cs 5, 8, .inr (.inr (.inr (.inr (va_up (va_up (va_up (va_up (va_up (fun _ => none) 0 (some q0)) 1 (some q1)) 2 (some q2)) 3 (some q3)) 4 (some q4))))))) :: (a0, .inr (8, [.ref qr, .ref qa, .ref qb, .ref pa, .int 0, .int 0, .int (-1)])) :: (((((((rdl cs qr rv ++ wd cs qa av) ++ wd cs qb bv) ++ wd cs q0 v0) ++ wd cs q1 v1) ++ wd cs q2 v2) ++ wd cs q3 v3) ++ wd cs q4 v4)) := hD
  refine lv_iinc (v := 5) (lv' := [(1, .int 5), (0, .ref a0)]) hx hb dX8_init_75 hl (k := 0) rfl (by decide) (by decide) rfl (fun ls hl => ?_)
  refine lv_goto (tgt := 53) hx hb dX8_init_78 (by decide) ?_
  refine lv_iload_n hx hb dX8_init_53 rfl (lv_at hl 0 rfl) ?_
  refine lv_aload_n hx hb dX8_init_54 rfl (lv_at hl 1 rfl) ?_
  refine va_get (D := D) (ci := 8) (v := .ref pa) (C := RX8) (T := TX8) (N := 7) hx hb hts iX8_init_8 hown hN.1 hP 1 rfl rfl 3 (by decide) (hts _ mX8_init_13) (fun _ h9 => h9) rfl dX8_init_55 ?_
  refine va_alen (v := 8) hx hb hN.1 hP 0 5 rfl rfl rfl dX8_init_58 ?_
  refine lv_icmp_ge (tgt := 81) hx hb dX8_init_59 (by decide) (fun c9 => absurd c9 (by decide)) (fun _ => ?_)
  refine lv_aload_n hx hb dX8_init_62 rfl (lv_at hl 1 rfl) ?_
  refine va_get (D := D) (ci := 8) (v := .ref pa) (C := RX8) (T := TX8) (N := 7) hx hb hts iX8_init_8 hown hN.1 hP 1 rfl rfl 3 (by decide) (hts _ mX8_init_13) (fun _ h9 => h9) rfl dX8_init_63 ?_
  refine lv_iload_n hx hb dX8_init_66 rfl (lv_at hl 0 rfl) ?_
  refine va_new (ci := 7) (fs := [.null, .null, .null, .null, .null, .null, .long 0, .int 0, .int 0, .int 0, .int 0, .int 0, .int 0, .int 0, .int 0, .int 0]) (C := RX7) (T := TX7) (N := 16) hx hb hts iX8_init_7 tyX7 tyX7_ok hown (hts _ mX8_init_8) (hts _ mX8_init_9) (hts _ mX8_init_10) hN.1 hP hD hS hA rfl df7 (Nat.le_of_ble_eq_true rfl) (Nat.le_of_ble_eq_true rfl) dX8_init_67 (fun q5 H hP hD hS => ?_)
  refine W.widen (k := 264) (n := 4605) (Nat.le_of_ble_eq_true rfl) (Nat.le_of_ble_eq_true rfl) ?_
  refine lv_dup hx hb dX8_init_70 rfl ?_
  refine ci_vH (ws := (pa, .inl (cs 5, 8, .inr (.inr (.inr (.inr (va_up (va_up (va_up (va_up (va_up (fun _ => none) 0 (some q0)) 1 (some q1)) 2 (some q2)) 3 (some q3)) 4 (some q4))))))) :: (a0, .inr (8, [.ref qr, .ref qa, .ref qb, .ref pa, .int 0, .int 0, .int (-1)])) :: (((((((rdl cs qr rv ++ wd cs qa av) ++ wd cs qb bv) ++ wd cs q0 v0) ++ wd cs q1 v1) ++ wd cs q2 v2) ++ wd cs q3 v3) ++ wd cs q4 v4)) (As := []) (rest := [.ref q5, .int 5, .ref pa]) (b := q5) ⟨hx, hb, hml, hown, hts⟩ (fun sz => k14w l D cs sz q5) (cwI 0 hts gX8_init_X7_init rfl rfl rfl (hts _ mX8_init_10) (hts _ mX8_init_22) (hts _ mX8_init_23) rfl hdX7_init_o ⟨(Nat.le_of_ble_eq_true rfl), (Nat.le_of_ble_eq_true rfl)⟩) hN hP hD hS hA rfl rfl hl.1 (Nat.le_of_ble_eq_true rfl) dX8_init_71 (Nat.le_of_ble_eq_true rfl) (Nat.le_of_ble_eq_true rfl) (fun v5 H locs hP hD hS => ?_)
  refine W.widen (k := 300) (n := 5070) (Nat.le_of_ble_eq_true rfl) (Nat.le_of_ble_eq_true rfl) ?_
  have hP : va_P D vwCl ((pa, .inl (cs 5, 8, .inr (.inr (.inr (.inr (va_up (va_up (va_up (va_up (va_up (fun _ => none) 0 (some q0)) 1 (some q1)) 2 (some q2)) 3 (some q3)) 4 (some q4))))))) :: (a0, .inr (8, [.ref qr, .ref qa, .ref qb, .ref pa, .int 0, .int 0, .int (-1)])) :: ((((((((rdl cs qr rv ++ wd cs qa av) ++ wd cs qb bv) ++ wd cs q0 v0) ++ wd cs q1 v1) ++ wd cs q2 v2) ++ wd cs q3 v3) ++ wd cs q4 v4) ++ wd cs q5 v5)) _ := hP
  have hD : va_D A ((pa, .inl (cs 5, 8, .inr (.inr (.inr (.inr (va_up (va_up (va_up (va_up (va_up (fun _ => none) 0 (some q0)) 1 (some q1)) 2 (some q2)) 3 (some q3)) 4 (some q4))))))) :: (a0, .inr (8, [.ref qr, .ref qa, .ref qb, .ref pa, .int 0, .int 0, .int (-1)])) :: ((((((((rdl cs qr rv ++ wd cs qa av) ++ wd cs qb bv) ++ wd cs q0 v0) ++ wd cs q1 v1) ++ wd cs q2 v2) ++ wd cs q3 v3) ++ wd cs q4 v4) ++ wd cs q5 v5)) := hD
  refine st_w (g := (va_up (va_up (va_up (va_up (va_up (va_up (fun _ => none) 0 (some q0)) 1 (some q1)) 2 (some q2)) 3 (some q3)) 4 (some q4)) 5 (some q5))) hx hb hN hP hD hS 0 rfl (List.length (α := Nat × va_E) (((((((rdl cs qr rv ++ wd cs qa av) ++ wd cs qb bv) ++ wd cs q0 v0) ++ wd cs q1 v1) ++ wd cs q2 v2) ++ wd cs q3 v3) ++ wd cs q4 v4) + 24 + 2) (at_app2 (t := (((((((rdl cs qr rv ++ wd cs qa av) ++ wd cs qb bv) ++ wd cs q0 v0) ++ wd cs q1 v1) ++ wd cs q2 v2) ++ wd cs q3 v3) ++ wd cs q4 v4)) rfl) (vin (by decide +kernel)) rfl dX8_init_74 (fun H locs hP hD hS => ?_)
  have hP : va_P D vwCl ((pa, .inl (cs 5, 8, .inr (.inr (.inr (.inr (va_up (va_up (va_up (va_up (va_up (va_up (fun _ => none) 0 (some q0)) 1 (some q1)) 2 (some q2)) 3 (some q3)) 4 (some q4)) 5 (some q5))))))) :: (a0, .inr (8, [.ref qr, .ref qa, .ref qb, .ref pa, .int 0, .int 0, .int (-1)])) :: ((((((((rdl cs qr rv ++ wd cs qa av) ++ wd cs qb bv) ++ wd cs q0 v0) ++ wd cs q1 v1) ++ wd cs q2 v2) ++ wd cs q3 v3) ++ wd cs q4 v4) ++ wd cs q5 v5)) _ := hP
  have hD : va_D A ((pa, .inl (cs 5, 8, .inr (.inr (.inr (.inr (va_up (va_up (va_up (va_up (va_up (va_up (fun _ => none) 0 (some q0)) 1 (some q1)) 2 (some q2)) 3 (some q3)) 4 (some q4)) 5 (some q5))))))) :: (a0, .inr (8, [.ref qr, .ref qa, .ref qb, .ref pa, .int 0, .int 0, .int (-1)])) :: ((((((((rdl cs qr rv ++ wd cs qa av) ++ wd cs qb bv) ++ wd cs q0 v0) ++ wd cs q1 v1) ++ wd cs q2 v2) ++ wd cs q3 v3) ++ wd cs q4 v4) ++ wd cs q5 v5)) := hD
  refine lv_iinc (v := 6) (lv' := [(1, .int 6), (0, .ref a0)]) hx hb dX8_init_75 hl (k := 0) rfl (by decide) (by decide) rfl (fun ls hl => ?_)
  refine lv_goto (tgt := 53) hx hb dX8_init_78 (by decide) ?_
  refine lv_iload_n hx hb dX8_init_53 rfl (lv_at hl 0 rfl) ?_
  refine lv_aload_n hx hb dX8_init_54 rfl (lv_at hl 1 rfl) ?_
  refine va_get (D := D) (ci := 8) (v := .ref pa) (C := RX8) (T := TX8) (N := 7) hx hb hts iX8_init_8 hown hN.1 hP 1 rfl rfl 3 (by decide) (hts _ mX8_init_13) (fun _ h9 => h9) rfl dX8_init_55 ?_
  refine va_alen (v := 8) hx hb hN.1 hP 0 5 rfl rfl rfl dX8_init_58 ?_
  refine lv_icmp_ge (tgt := 81) hx hb dX8_init_59 (by decide) (fun c9 => absurd c9 (by decide)) (fun _ => ?_)
  refine lv_aload_n hx hb dX8_init_62 rfl (lv_at hl 1 rfl) ?_
  refine va_get (D := D) (ci := 8) (v := .ref pa) (C := RX8) (T := TX8) (N := 7) hx hb hts iX8_init_8 hown hN.1 hP 1 rfl rfl 3 (by decide) (hts _ mX8_init_13) (fun _ h9 => h9) rfl dX8_init_63 ?_
  refine lv_iload_n hx hb dX8_init_66 rfl (lv_at hl 0 rfl) ?_
  refine va_new (ci := 7) (fs := [.null, .null, .null, .null, .null, .null, .long 0, .int 0, .int 0, .int 0, .int 0, .int 0, .int 0, .int 0, .int 0, .int 0]) (C := RX7) (T := TX7) (N := 16) hx hb hts iX8_init_7 tyX7 tyX7_ok hown (hts _ mX8_init_8) (hts _ mX8_init_9) (hts _ mX8_init_10) hN.1 hP hD hS hA rfl df7 (Nat.le_of_ble_eq_true rfl) (Nat.le_of_ble_eq_true rfl) dX8_init_67 (fun q6 H hP hD hS => ?_)
  refine W.widen (k := 301) (n := 5086) (Nat.le_of_ble_eq_true rfl) (Nat.le_of_ble_eq_true rfl) ?_
  refine lv_dup hx hb dX8_init_70 rfl ?_
  refine ci_vH (ws := (pa, .inl (cs 5, 8, .inr (.inr (.inr (.inr (va_up (va_up (va_up (va_up (va_up (va_up (fun _ => none) 0 (some q0)) 1 (some q1)) 2 (some q2)) 3 (some q3)) 4 (some q4)) 5 (some q5))))))) :: (a0, .inr (8, [.ref qr, .ref qa, .ref qb, .ref pa, .int 0, .int 0, .int (-1)])) :: ((((((((rdl cs qr rv ++ wd cs qa av) ++ wd cs qb bv) ++ wd cs q0 v0) ++ wd cs q1 v1) ++ wd cs q2 v2) ++ wd cs q3 v3) ++ wd cs q4 v4) ++ wd cs q5 v5)) (As := []) (rest := [.ref q6, .int 6, .ref pa]) (b := q6) ⟨hx, hb, hml, hown, hts⟩ (fun sz => k14w l D cs sz q6) (cwI 0 hts gX8_init_X7_init rfl rfl rfl (hts _ mX8_init_10) (hts _ mX8_init_22) (hts _ mX8_init_23) rfl hdX7_init_o ⟨(Nat.le_of_ble_eq_true rfl), (Nat.le_of_ble_eq_true rfl)⟩) hN hP hD hS hA rfl rfl hl.1 (Nat.le_of_ble_eq_true rfl) dX8_init_71 (Nat.le_of_ble_eq_true rfl) (Nat.le_of_ble_eq_true rfl) (fun v6 H locs hP hD hS => ?_)
  refine W.widen (k := 337) (n := 5551) (Nat.le_of_ble_eq_true rfl) (Nat.le_of_ble_eq_true rfl) ?_
  have hP : va_P D vwCl ((pa, .inl (cs 5, 8, .inr (.inr (.inr (.inr (va_up (va_up (va_up (va_up (va_up (va_up (fun _ => none) 0 (some q0)) 1 (some q1)) 2 (some q2)) 3 (some q3)) 4 (some q4)) 5 (some q5))))))) :: (a0, .inr (8, [.ref qr, .ref qa, .ref qb, .ref pa, .int 0, .int 0, .int (-1)])) :: (((((((((rdl cs qr rv ++ wd cs qa av) ++ wd cs qb bv) ++ wd cs q0 v0) ++ wd cs q1 v1) ++ wd cs q2 v2) ++ wd cs q3 v3) ++ wd cs q4 v4) ++ wd cs q5 v5) ++ wd cs q6 v6)) _ := hP
  have hD : va_D A ((pa, .inl (cs 5, 8, .inr (.inr (.inr (.inr (va_up (va_up (va_up (va_up (va_up (va_up (fun _ => none) 0 (some q0)) 1 (some q1)) 2 (some q2)) 3 (some q3)) 4 (some q4)) 5 (some q5))))))) :: (a0, .inr (8, [.ref qr, .ref qa, .ref qb, .ref pa, .int 0, .int 0, .int (-1)])) :: (((((((((rdl cs qr rv ++ wd cs qa av) ++ wd cs qb bv) ++ wd cs q0 v0) ++ wd cs q1 v1) ++ wd cs q2 v2) ++ wd cs q3 v3) ++ wd cs q4 v4) ++ wd cs q5 v5) ++ wd cs q6 v6)) := hD
  refine st_w (g := (va_up (va_up (va_up (va_up (va_up (va_up (va_up (fun _ => none) 0 (some q0)) 1 (some q1)) 2 (some q2)) 3 (some q3)) 4 (some q4)) 5 (some q5)) 6 (some q6))) hx hb hN hP hD hS 0 rfl (List.length (α := Nat × va_E) ((((((((rdl cs qr rv ++ wd cs qa av) ++ wd cs qb bv) ++ wd cs q0 v0) ++ wd cs q1 v1) ++ wd cs q2 v2) ++ wd cs q3 v3) ++ wd cs q4 v4) ++ wd cs q5 v5) + 24 + 2) (at_app2 (t := ((((((((rdl cs qr rv ++ wd cs qa av) ++ wd cs qb bv) ++ wd cs q0 v0) ++ wd cs q1 v1) ++ wd cs q2 v2) ++ wd cs q3 v3) ++ wd cs q4 v4) ++ wd cs q5 v5)) rfl) (vin (by decide +kernel)) rfl dX8_init_74 (fun H locs hP hD hS => ?_)
  have hP : va_P D vwCl ((pa, .inl (cs 5, 8, .inr (.inr (.inr (.inr (va_up (va_up (va_up (va_up (va_up (va_up (va_up (fun _ => none) 0 (some q0)) 1 (some q1)) 2 (some q2)) 3 (some q3)) 4 (some q4)) 5 (some q5)) 6 (some q6))))))) :: (a0, .inr (8, [.ref qr, .ref qa, .ref qb, .ref pa, .int 0, .int 0, .int (-1)])) :: (((((((((rdl cs qr rv ++ wd cs qa av) ++ wd cs qb bv) ++ wd cs q0 v0) ++ wd cs q1 v1) ++ wd cs q2 v2) ++ wd cs q3 v3) ++ wd cs q4 v4) ++ wd cs q5 v5) ++ wd cs q6 v6)) _ := hP
  have hD : va_D A ((pa, .inl (cs 5, 8, .inr (.inr (.inr (.inr (va_up (va_up (va_up (va_up (va_up (va_up (va_up (fun _ => none) 0 (some q0)) 1 (some q1)) 2 (some q2)) 3 (some q3)) 4 (some q4)) 5 (some q5)) 6 (some q6))))))) :: (a0, .inr (8, [.ref qr, .ref qa, .ref qb, .ref pa, .int 0, .int 0, .int (-1)])) :: (((((((((rdl cs qr rv ++ wd cs qa av) ++ wd cs qb bv) ++ wd cs q0 v0) ++ wd cs q1 v1) ++ wd cs q2 v2) ++ wd cs q3 v3) ++ wd cs q4 v4) ++ wd cs q5 v5) ++ wd cs q6 v6)) := hD
  refine lv_iinc (v := 7) (lv' := [(1, .int 7), (0, .ref a0)]) hx hb dX8_init_75 hl (k := 0) rfl (by decide) (by decide) rfl (fun ls hl => ?_)
  refine lv_goto (tgt := 53) hx hb dX8_init_78 (by decide) ?_
  refine lv_iload_n hx hb dX8_init_53 rfl (lv_at hl 0 rfl) ?_
  refine lv_aload_n hx hb dX8_init_54 rfl (lv_at hl 1 rfl) ?_
  refine va_get (D := D) (ci := 8) (v := .ref pa) (C := RX8) (T := TX8) (N := 7) hx hb hts iX8_init_8 hown hN.1 hP 1 rfl rfl 3 (by decide) (hts _ mX8_init_13) (fun _ h9 => h9) rfl dX8_init_55 ?_
  refine va_alen (v := 8) hx hb hN.1 hP 0 5 rfl rfl rfl dX8_init_58 ?_
  refine lv_icmp_ge (tgt := 81) hx hb dX8_init_59 (by decide) (fun c9 => absurd c9 (by decide)) (fun _ => ?_)
  refine lv_aload_n hx hb dX8_init_62 rfl (lv_at hl 1 rfl) ?_
  refine va_get (D := D) (ci := 8) (v := .ref pa) (C := RX8) (T := TX8) (N := 7) hx hb hts iX8_init_8 hown hN.1 hP 1 rfl rfl 3 (by decide) (hts _ mX8_init_13) (fun _ h9 => h9) rfl dX8_init_63 ?_
  refine lv_iload_n hx hb dX8_init_66 rfl (lv_at hl 0 rfl) ?_
  refine va_new (ci := 7) (fs := [.null, .null, .null, .null, .null, .null, .long 0, .int 0, .int 0, .int 0, .int 0, .int 0, .int 0, .int 0, .int 0, .int 0]) (C := RX7) (T := TX7) (N := 16) hx hb hts iX8_init_7 tyX7 tyX7_ok hown (hts _ mX8_init_8) (hts _ mX8_init_9) (hts _ mX8_init_10) hN.1 hP hD hS hA rfl df7 (Nat.le_of_ble_eq_true rfl) (Nat.le_of_ble_eq_true rfl) dX8_init_67 (fun q7 H hP hD hS => ?_)
  refine W.widen (k := 338) (n := 5567) (Nat.le_of_ble_eq_true rfl) (Nat.le_of_ble_eq_true rfl) ?_
  refine lv_dup hx hb dX8_init_70 rfl ?_
  refine ci_vH (ws := (pa, .inl (cs 5, 8, .inr (.inr (.inr (.inr (va_up (va_up (va_up (va_up (va_up (va_up (va_up (fun _ => none) 0 (some q0)) 1 (some q1)) 2 (some q2)) 3 (some q3)) 4 (some q4)) 5 (some q5)) 6 (some q6))))))) :: (a0, .inr (8, [.ref qr, .ref qa, .ref qb, .ref pa, .int 0, .int 0, .int (-1)])) :: (((((((((rdl cs qr rv ++ wd cs qa av) ++ wd cs qb bv) ++ wd cs q0 v0) ++ wd cs q1 v1) ++ wd cs q2 v2) ++ wd cs q3 v3) ++ wd cs q4 v4) ++ wd cs q5 v5) ++ wd cs q6 v6)) (As := []) (rest := [.ref q7, .int 7, .ref pa]) (b := q7) ⟨hx, hb, hml, hown, hts⟩ (fun sz => k14w l D cs sz q7) (cwI 0 hts gX8_init_X7_init rfl rfl rfl (hts _ mX8_init_10) (hts _ mX8_init_22) (hts _ mX8_init_23) rfl hdX7_init_o ⟨(Nat.le_of_ble_eq_true rfl), (Nat.le_of_ble_eq_true rfl)⟩) hN hP hD hS hA rfl rfl hl.1 (Nat.le_of_ble_eq_true rfl) dX8_init_71 (Nat.le_of_ble_eq_true rfl) (Nat.le_of_ble_eq_true rfl) (fun v7 H locs hP hD hS => ?_)
  refine W.widen (k := 374) (n := 6032) (Nat.le_of_ble_eq_true rfl) (Nat.le_of_ble_eq_true rfl) ?_
  have hP : va_P D vwCl ((pa, .inl (cs 5, 8, .inr (.inr (.inr (.inr (va_up (va_up (va_up (va_up (va_up (va_up (va_up (fun _ => none) 0 (some q0)) 1 (some q1)) 2 (some q2)) 3 (some q3)) 4 (some q4)) 5 (some q5)) 6 (some q6))))))) :: (a0, .inr (8, [.ref qr, .ref qa, .ref qb, .ref pa, .int 0, .int 0, .int (-1)])) :: ((((((((((rdl cs qr rv ++ wd cs qa av) ++ wd cs qb bv) ++ wd cs q0 v0) ++ wd cs q1 v1) ++ wd cs q2 v2) ++ wd cs q3 v3) ++ wd cs q4 v4) ++ wd cs q5 v5) ++ wd cs q6 v6) ++ wd cs q7 v7)) _ := hP
  have hD : va_D A ((pa, .inl (cs 5, 8, .inr (.inr (.inr (.inr (va_up (va_up (va_up (va_up (va_up (va_up (va_up (fun _ => none) 0 (some q0)) 1 (some q1)) 2 (some q2)) 3 (some q3)) 4 (some q4)) 5 (some q5)) 6 (some q6))))))) :: (a0, .inr (8, [.ref qr, .ref qa, .ref qb, .ref pa, .int 0, .int 0, .int (-1)])) :: ((((((((((rdl cs qr rv ++ wd cs qa av) ++ wd cs qb bv) ++ wd cs q0 v0) ++ wd cs q1 v1) ++ wd cs q2 v2) ++ wd cs q3 v3) ++ wd cs q4 v4) ++ wd cs q5 v5) ++ wd cs q6 v6) ++ wd cs q7 v7)) := hD
  refine st_w (g := (va_up (va_up (va_up (va_up (va_up (va_up (va_up (va_up (fun _ => none) 0 (some q0)) 1 (some q1)) 2 (some q2)) 3 (some q3)) 4 (some q4)) 5 (some q5)) 6 (some q6)) 7 (some q7))) hx hb hN hP hD hS 0 rfl (List.length (α := Nat × va_E) (((((((((rdl cs qr rv ++ wd cs qa av) ++ wd cs qb bv) ++ wd cs q0 v0) ++ wd cs q1 v1) ++ wd cs q2 v2) ++ wd cs q3 v3) ++ wd cs q4 v4) ++ wd cs q5 v5) ++ wd cs q6 v6) + 24 + 2) (at_app2 (t := (((((((((rdl cs qr rv ++ wd cs qa av) ++ wd cs qb bv) ++ wd cs q0 v0) ++ wd cs q1 v1) ++ wd cs q2 v2) ++ wd cs q3 v3) ++ wd cs q4 v4) ++ wd cs q5 v5) ++ wd cs q6 v6)) rfl) (vin (by decide +kernel)) rfl dX8_init_74 (fun H locs hP hD hS => ?_)
  have hP : va_P D vwCl ((pa, .inl (cs 5, 8, .inr (.inr (.inr (.inr (va_up (va_up (va_up (va_up (va_up (va_up (va_up (va_up (fun _ => none) 0 (some q0)) 1 (some q1)) 2 (some q2)) 3 (some q3)) 4 (some q4)) 5 (some q5)) 6 (some q6)) 7 (some q7))))))) :: (a0, .inr (8, [.ref qr, .ref qa, .ref qb, .ref pa, .int 0, .int 0, .int (-1)])) :: ((((((((((rdl cs qr rv ++ wd cs qa av) ++ wd cs qb bv) ++ wd cs q0 v0) ++ wd cs q1 v1) ++ wd cs q2 v2) ++ wd cs q3 v3) ++ wd cs q4 v4) ++ wd cs q5 v5) ++ wd cs q6 v6) ++ wd cs q7 v7)) _ := hP
  have hD : va_D A ((pa, .inl (cs 5, 8, .inr (.inr (.inr (.inr (va_up (va_up (va_up (va_up (va_up (va_up (va_up (va_up (fun _ => none) 0 (some q0)) 1 (some q1)) 2 (some q2)) 3 (some q3)) 4 (some q4)) 5 (some q5)) 6 (some q6)) 7 (some q7))))))) :: (a0, .inr (8, [.ref qr, .ref qa, .ref qb, .ref pa, .int 0, .int 0, .int (-1)])) :: ((((((((((rdl cs qr rv ++ wd cs qa av) ++ wd cs qb bv) ++ wd cs q0 v0) ++ wd cs q1 v1) ++ wd cs q2 v2) ++ wd cs q3 v3) ++ wd cs q4 v4) ++ wd cs q5 v5) ++ wd cs q6 v6) ++ wd cs q7 v7)) := hD
  refine lv_iinc (v := 8) (lv' := [(1, .int 8), (0, .ref a0)]) hx hb dX8_init_75 hl (k := 0) rfl (by decide) (by decide) rfl (fun ls hl => ?_)
  refine lv_goto (tgt := 53) hx hb dX8_init_78 (by decide) ?_
  refine lv_iload_n hx hb dX8_init_53 rfl (lv_at hl 0 rfl) ?_
  refine lv_aload_n hx hb dX8_init_54 rfl (lv_at hl 1 rfl) ?_
  refine va_get (D := D) (ci := 8) (v := .ref pa) (C := RX8) (T := TX8) (N := 7) hx hb hts iX8_init_8 hown hN.1 hP 1 rfl rfl 3 (by decide) (hts _ mX8_init_13) (fun _ h9 => h9) rfl dX8_init_55 ?_
  refine va_alen (v := 8) hx hb hN.1 hP 0 5 rfl rfl rfl dX8_init_58 ?_
  refine lv_icmp_ge (tgt := 81) hx hb dX8_init_59 (by decide) (fun _ => ?_) (fun c9 => absurd (by decide) c9)
  exact en_v2 (w1 := fun u : (Nat → Nat) × (Nat → Nat → Nat) => w8 cs a0 u.1 u.2) (fun i => match i with | 0 => qa | 1 => qb | 2 => q0 | 3 => q1 | 4 => q2 | 5 => q3 | 6 => q4 | 7 => q5 | 8 => q6 | 9 => q7 | 10 => qr | _ => pa, fun i => match i with | 0 => av | 1 => bv | 2 => v0 | 3 => v1 | 4 => v2 | 5 => v3 | 6 => v4 | 7 => v5 | 8 => v6 | 9 => v7 | _ => rv) hx hb hr hlocks hP hD hS (Nat.le_of_ble_eq_true rfl) (Nat.le_of_ble_eq_true rfl) dX8_init_81
