def rowsF (l : List Nat) : Nat → Option Nat := fun i => l[i]?
theorem vin {i : Int32} {n : Nat} (h : decide (¬ (i < 0 ∨ n ≤ i.toNatClampNeg)) = true) : vp_in i n := (of_decide_eq_true h : ¬ (i < 0 ∨ n ≤ i.toNatClampNeg))
theorem upd_id {f : Nat → Int32} {j : Nat} {x : Int32} (h : f j = x) : upd f j x = f := by
  funext k
  by_cases e : k = j
  · subst e; rw [pk_us, h]
  · exact pk_un e
theorem upL_id {f : Nat → Int64} {j : Nat} {x : Int64} (h : f j = x) : vp_updL f j x = f := by
  funext k
  by_cases e : k = j
  · subst e; rw [pk_uLs, h]
  · exact pk_uLn e
theorem rows_mk (n : Nat) (r : Nat → Nat) : (fun i => if i < n then some (r i) else none) = rowsF ((List.range n).map r) := by
  funext i
  unfold rowsF
  by_cases h : i < n
  · rw [if_pos h, List.getElem?_map, List.getElem?_range h]; rfl
  · rw [if_neg h, List.getElem?_eq_none (by rw [List.length_map, List.length_range]; omega)]
theorem rows_pl (n : Nat) (r : Nat → Nat) (f : Nat → va_E) (e : va_E) : va_pl ([] ++ (List.range n).map r) (vr_up f ((List.range n).map r) e) = (List.range n).map (fun i => (r i, e)) := by
  rw [List.nil_append]
  unfold va_pl
  rw [List.map_map]
  refine List.map_congr_left fun i hi => ?_
  show (r i, vr_up f ((List.range n).map r) e (r i)) = (r i, e)
  rw [vr_up_in (List.mem_map.mpr ⟨i, hi, rfl⟩)]
theorem cpy_0 {α : Type} (f g : Nat → α) (sp dp : Nat) : va_cpy f g sp dp 0 = g := by
  funext k
  exact pk_cpy_out (by omega)
section RW
variable {p : Program} {l : Launch} {e : Env} {R : Room} {s : State} {m : MethodId} {args : Array Value} {below : List Frame} {meth : Method} {c : Code} {H : Heap} {locs : List Loc} {cells slots : Nat} {Q : State → Prop}
variable {cc : ByteArray} {pc : Nat} {ls : Array Slot} {rest : List Value} {D : va_G} {cs : Nat → ClassId} {A : Nat → Prop} {a : Nat} {ws : va_W} {H0 : Heap}
theorem ld_i (hx : p.tables.exec = Jvm.exec) (hb : c.code = cc) (hN : NK D cs s) (hP : va_P D vwCl ws H) (q0 : Nat) {n : Nat} {f : Nat → Int32} (ha : ws[q0]? = some (a, .inl (cs 0, n, .inl f))) {i : Int32} (hin : vp_in i n) {v : Int32} (hv : f i.toNatClampNeg = v) (hdg : decode cc pc = .ok (.iaload, 1))
    (kk : W p l e R s m args below meth c H locs cells slots Q (F0 m (pc + 1) ls (.int v :: rest))) : W p l e R s m args below meth c H locs cells slots Q (F0 m pc ls (.int i :: .ref a :: rest)) :=
  va_iald hx hb hN.1 hP q0 0 ha rfl hin hdg (by rw [hv]; exact kk)
theorem ld_b (hx : p.tables.exec = Jvm.exec) (hb : c.code = cc) (hN : NK D cs s) (hP : va_P D vwCl ws H) (q0 : Nat) {n : Nat} {f : Nat → Int32} (ha : ws[q0]? = some (a, .inl (cs 1, n, .inl f))) {i : Int32} (hin : vp_in i n) {v : Int32} (hv : f i.toNatClampNeg = v) (hdg : decode cc pc = .ok (.baload, 1))
    (kk : W p l e R s m args below meth c H locs cells slots Q (F0 m (pc + 1) ls (.int v :: rest))) : W p l e R s m args below meth c H locs cells slots Q (F0 m pc ls (.int i :: .ref a :: rest)) :=
  va_bald hx hb hN.1 hP q0 1 ha rfl hin hdg (by rw [hv]; exact kk)
theorem ld_z (hx : p.tables.exec = Jvm.exec) (hb : c.code = cc) (hN : NK D cs s) (hP : va_P D vwCl ws H) (q0 : Nat) {n : Nat} {f : Nat → Int32} (ha : ws[q0]? = some (a, .inl (cs 2, n, .inl f))) {i : Int32} (hin : vp_in i n) {v : Int32} (hv : f i.toNatClampNeg = v) (hdg : decode cc pc = .ok (.baload, 1))
    (kk : W p l e R s m args below meth c H locs cells slots Q (F0 m (pc + 1) ls (.int v :: rest))) : W p l e R s m args below meth c H locs cells slots Q (F0 m pc ls (.int i :: .ref a :: rest)) :=
  va_zald hx hb hN.1 hP q0 2 ha rfl hin hdg (by rw [hv]; exact kk)
theorem ld_l (hx : p.tables.exec = Jvm.exec) (hb : c.code = cc) (hN : NK D cs s) (hP : va_P D vwCl ws H) (q0 : Nat) {n : Nat} {f : Nat → Int64} (ha : ws[q0]? = some (a, .inl (cs 3, n, .inr (.inl f)))) {i : Int32} (hin : vp_in i n) {v : Int64} (hv : f i.toNatClampNeg = v) (hdg : decode cc pc = .ok (.laload, 1))
    (kk : W p l e R s m args below meth c H locs cells slots Q (F0 m (pc + 1) ls (.long v :: rest))) : W p l e R s m args below meth c H locs cells slots Q (F0 m pc ls (.int i :: .ref a :: rest)) :=
  va_lald hx hb hN.1 hP q0 3 ha rfl hin hdg (by rw [hv]; exact kk)
theorem ld_p (hx : p.tables.exec = Jvm.exec) (hb : c.code = cc) (hN : NK D cs s) (hP : va_P D vwCl ws H) (q0 : Nat) {n : Nat} {f : Nat → Option Nat} (ha : ws[q0]? = some (a, .inl (cs 4, n, .inr (.inr (.inr (.inr f)))))) {i : Int32} (hin : vp_in i n) {v : Value} (hv : va_rf (f i.toNatClampNeg) = v) (hdg : decode cc pc = .ok (.aaload, 1))
    (kk : W p l e R s m args below meth c H locs cells slots Q (F0 m (pc + 1) ls (v :: rest))) : W p l e R s m args below meth c H locs cells slots Q (F0 m pc ls (.int i :: .ref a :: rest)) :=
  va_aldq hx hb hN.1 hP q0 4 ha rfl hin hdg (by rw [hv]; exact kk)
theorem ld_w (hx : p.tables.exec = Jvm.exec) (hb : c.code = cc) (hN : NK D cs s) (hP : va_P D vwCl ws H) (q0 : Nat) {n : Nat} {f : Nat → Option Nat} (ha : ws[q0]? = some (a, .inl (cs 5, n, .inr (.inr (.inr (.inr f)))))) {i : Int32} (hin : vp_in i n) {v : Value} (hv : va_rf (f i.toNatClampNeg) = v) (hdg : decode cc pc = .ok (.aaload, 1))
    (kk : W p l e R s m args below meth c H locs cells slots Q (F0 m (pc + 1) ls (v :: rest))) : W p l e R s m args below meth c H locs cells slots Q (F0 m pc ls (.int i :: .ref a :: rest)) :=
  va_aldq hx hb hN.1 hP q0 5 ha rfl hin hdg (by rw [hv]; exact kk)
theorem ld_a (hx : p.tables.exec = Jvm.exec) (hb : c.code = cc) (hN : NK D cs s) (hP : va_P D vwCl ws H) (q0 : Nat) {n : Nat} {f : Nat → Option Nat} (ha : ws[q0]? = some (a, .inl (cs 6, n, .inr (.inr (.inr (.inr f)))))) {i : Int32} (hin : vp_in i n) {v : Value} (hv : va_rf (f i.toNatClampNeg) = v) (hdg : decode cc pc = .ok (.aaload, 1))
    (kk : W p l e R s m args below meth c H locs cells slots Q (F0 m (pc + 1) ls (v :: rest))) : W p l e R s m args below meth c H locs cells slots Q (F0 m pc ls (.int i :: .ref a :: rest)) :=
  va_alda hx hb hN.1 hP q0 6 ha rfl hin hdg (by rw [hv]; exact kk)
end RW
theorem asg_self (vm : Vm) (c : ClassId) : vm.assignable c c = true := by
  show (c == c || _) = true
  rw [beq_self_eq_true, Bool.true_or]
section BX
variable {p : Program} {l : Launch} {e : Env} {R : Room} {s : State} {m : MethodId} {args : Array Value} {below : List Frame} {meth : Method} {c : Code} {H : Heap} {locs : List Loc} {cells slots : Nat} {Q : State → Prop}
variable {cc : ByteArray} {pc : Nat} {ls : Array Slot} {rest : List Value} {D : va_G} {cs : Nat → ClassId} {B0 : Nat} {a : Nat} {ws : va_W} {ms ms' : List Nat} {Hb : Heap}
theorem b_put (hexec : p.tables.exec = Jvm.exec) (hb : c.code = cc) {own ref C : String} {T : u_T} {N ci index : Nat} {Ts : List Cond} (hts : ∀ w ∈ Ts, w.before args s = true) (hin : ∀ w ∈ u_ws C T N, w ∈ Ts) (ty0 : Nat → FieldType) (hty : ∀ k, k < N → parseFieldDescriptor (T k).2.2.1 = some (ty0 k)) (hnm : ∀ a, a < N → ∀ b, b < N → a ≠ b → (T a).2.1 ≠ (T b).2.1) (hown : s.vm.findClass own = some m.cls) (hN : NK D cs s) (hB : Bx B0 D Hb ws ms H locs) (q0 : Nat) {fs : List Value} (he : ws[q0]? = some (a, .inr (ci, fs))) (hc : vwCl[ci]? = some (C, T, N)) (k : Nat) (hk : k < N) (hlink : (Cond.fieldLink own index ref (T k).2.1 (T k).2.2.1).before args s = true) (hsame : ∀ x, s.fieldFound? (T k).1 (T k).2.1 (T k).2.2.1 = some x → s.fieldFound? ref (T k).2.1 (T k).2.2.1 = some x) (hfin : (T k).2.2.2 = false) {ty : FieldType} {v : Value} (hd : parseFieldDescriptor (T k).2.2.1 = some ty) (hn : narrow ty v = v) (hfit : fits ty v = true) (hl : k < fs.length) (hm : ms' = a :: ms ∨ (ms' = ms ∧ a ∈ ms))
    (hdg : decode cc pc = .ok (.putfield index, 3)) (kk : ∀ (H1 : Heap) (locs1 : List Loc), Bx B0 D Hb (ws.set q0 (a, .inr (ci, fs.set k v))) ms' H1 locs1 → W p l e R s m args below meth c H1 locs1 cells slots Q (F0 m (pc + 3) ls rest)) : W p l e R s m args below meth c H locs cells slots Q (F0 m pc ls (v :: .ref a :: rest)) := by
  have hK := hN.1
  have hap := va_apart (own := own) hts hin ty0 hty hnm hK hc
  obtain ⟨r, h1, cell, q1, q2, q3, q4⟩ := hB.1 q0 _ he
  have hr : r = (C, T, N) := Option.some.inj (h1.symm.trans hc)
  subst hr
  obtain ⟨hS, hfc, kC, hkC, hkind⟩ := hK.1 ci _ hc
  obtain ⟨cf, kf, fi, f, hi, hsl⟩ := hS k hk
  have hlay := hts _ (hin _ (u_in_lay hk))
  unfold u_lay at hlay
  rw [if_neg (by rw [hfin]; decide)] at hlay
  have hst := (u_facts hfc hkC (u_lays hts hin hk) hi).1
  have h6 := u_store hfc hkC hkind hlay hi hd hn hfit
  refine W.putK hexec hb (f := f) ⟨hown, hlink, ⟨_, _, _, hsame _ hi⟩, hst⟩ (by rw [q2]; exact h6) q1 q3 (by rw [hsl]; exact k2_hasslot (q4 k hk)) rfl rfl hdg fun H' e1 e2 e3 => ?_
  rw [hsl] at e1 ⊢
  exact kk H' _ (hB.set he e2 e3 ⟨_, hc, t_OB.to (V := updV (vp_V fs) k v) ⟨_, e1, q2, q3, t_set q4 hap hk v⟩ (fun j _ => vp_updV_set hl v j)⟩ hm)
theorem b_putN (hexec : p.tables.exec = Jvm.exec) (hb : c.code = cc) {own ref C host : String} {T : u_T} {N ci index : Nat} {Ts : List Cond} (hts : ∀ w ∈ Ts, w.before args s = true) (hin : ∀ w ∈ u_ws C T N, w ∈ Ts) (ty0 : Nat → FieldType) (hty : ∀ k, k < N → parseFieldDescriptor (T k).2.2.1 = some (ty0 k)) (hnm : ∀ a, a < N → ∀ b, b < N → a ≠ b → (T a).2.1 ≠ (T b).2.1) (hown : s.vm.findClass own = some m.cls) (hN : NK D cs s) (hB : Bx B0 D Hb ws ms H locs) (q0 : Nat) {fs : List Value} (he : ws[q0]? = some (a, .inr (ci, fs))) (hc : vwCl[ci]? = some (C, T, N)) (k : Nat) (hk : k < N) (hlink : (Cond.fieldLinkNest own index ref (T k).2.1 (T k).2.2.1 host).before args s = true) (hsame : ∀ x, s.fieldFound? (T k).1 (T k).2.1 (T k).2.2.1 = some x → s.fieldFound? ref (T k).2.1 (T k).2.2.1 = some x) (hfin : (T k).2.2.2 = false) {ty : FieldType} {v : Value} (hd : parseFieldDescriptor (T k).2.2.1 = some ty) (hn : narrow ty v = v) (hfit : fits ty v = true) (hl : k < fs.length) (hm : ms' = a :: ms ∨ (ms' = ms ∧ a ∈ ms))
    (hdg : decode cc pc = .ok (.putfield index, 3)) (kk : ∀ (H1 : Heap) (locs1 : List Loc), Bx B0 D Hb (ws.set q0 (a, .inr (ci, fs.set k v))) ms' H1 locs1 → W p l e R s m args below meth c H1 locs1 cells slots Q (F0 m (pc + 3) ls rest)) : W p l e R s m args below meth c H locs cells slots Q (F0 m pc ls (v :: .ref a :: rest)) := by
  have hK := hN.1
  have hap := va_apart (own := own) hts hin ty0 hty hnm hK hc
  obtain ⟨r, h1, cell, q1, q2, q3, q4⟩ := hB.1 q0 _ he
  have hr : r = (C, T, N) := Option.some.inj (h1.symm.trans hc)
  subst hr
  obtain ⟨hS, hfc, kC, hkC, hkind⟩ := hK.1 ci _ hc
  obtain ⟨cf, kf, fi, f, hi, hsl⟩ := hS k hk
  have hlay := hts _ (hin _ (u_in_lay hk))
  unfold u_lay at hlay
  rw [if_neg (by rw [hfin]; decide)] at hlay
  have hst := (u_facts hfc hkC (u_lays hts hin hk) hi).1
  have h6 := u_store hfc hkC hkind hlay hi hd hn hfit
  refine va_WputK hexec hb (f := f) hown hlink (hsame _ hi) hst (by rw [q2]; exact h6) q1 q3 (by rw [hsl]; exact k2_hasslot (q4 k hk)) rfl rfl hdg fun H' e1 e2 e3 => ?_
  rw [hsl] at e1 ⊢
  exact kk H' _ (hB.set he e2 e3 ⟨_, hc, t_OB.to (V := updV (vp_V fs) k v) ⟨_, e1, q2, q3, t_set q4 hap hk v⟩ (fun j _ => vp_updV_set hl v j)⟩ hm)
theorem b_putF (hexec : p.tables.exec = Jvm.exec) (hb : c.code = cc) {own ref C : String} {T : u_T} {N ci index : Nat} {Ts : List Cond} (hts : ∀ w ∈ Ts, w.before args s = true) (hin : ∀ w ∈ u_ws C T N, w ∈ Ts) (ty0 : Nat → FieldType) (hty : ∀ k, k < N → parseFieldDescriptor (T k).2.2.1 = some (ty0 k)) (hnm : ∀ a, a < N → ∀ b, b < N → a ≠ b → (T a).2.1 ≠ (T b).2.1) (hown : s.vm.findClass own = some m.cls) (hN : NK D cs s) (hB : Bx B0 D Hb ws ms H locs) (q0 : Nat) {fs : List Value} (he : ws[q0]? = some (a, .inr (ci, fs))) (hc : vwCl[ci]? = some (C, T, N)) (k : Nat) (hk : k < N) (hlink : (Cond.fieldLink own index ref (T k).2.1 (T k).2.2.1).before args s = true) (hsame : ∀ x, s.fieldFound? (T k).1 (T k).2.1 (T k).2.2.1 = some x → s.fieldFound? ref (T k).2.1 (T k).2.2.1 = some x) (hfin : (T k).2.2.2 = true) (hin2 : meth.name = "<init>") (hdecl : (T k).1 = own) {ty : FieldType} {v : Value} (hd : parseFieldDescriptor (T k).2.2.1 = some ty) (hn : narrow ty v = v) (hfit : fits ty v = true) (hl : k < fs.length) (hm : ms' = a :: ms ∨ (ms' = ms ∧ a ∈ ms))
    (hdg : decode cc pc = .ok (.putfield index, 3)) (kk : ∀ (H1 : Heap) (locs1 : List Loc), Bx B0 D Hb (ws.set q0 (a, .inr (ci, fs.set k v))) ms' H1 locs1 → W p l e R s m args below meth c H1 locs1 cells slots Q (F0 m (pc + 3) ls rest)) : W p l e R s m args below meth c H locs cells slots Q (F0 m pc ls (v :: .ref a :: rest)) := by
  have hK := hN.1
  have hap := va_apart (own := own) hts hin ty0 hty hnm hK hc
  obtain ⟨r, h1, cell, q1, q2, q3, q4⟩ := hB.1 q0 _ he
  have hr : r = (C, T, N) := Option.some.inj (h1.symm.trans hc)
  subst hr
  obtain ⟨hS, hfc, kC, hkC, hkind⟩ := hK.1 ci _ hc
  obtain ⟨cf, kf, fi, f, hi, hsl⟩ := hS k hk
  have hlay := hts _ (hin _ (u_in_lay hk))
  unfold u_lay at hlay
  rw [if_pos hfin] at hlay
  have hst := (u_facts hfc hkC (u_lays hts hin hk) hi).1
  have hcf : m.cls = cf := by
    obtain ⟨_, _, c', _, _, _, -, -, hf', -, -, -, hown2, -⟩ := Cond.laysFinal_spec hlay
    have e1 : c' = cf := by have := hi.symm.trans hf'; simp at this; exact this.1.symm
    rw [hdecl] at hown2
    rw [← e1]; exact Option.some.inj (hown.symm.trans hown2)
  have h6 := u_fits hfc hkC hkind (Or.inr hlay) hi hd hn hfit
  refine W.putFinK hexec hb hown hlink (hsame _ hi) hst hcf hin2 (by rw [q2]; exact h6) q1 q3 (by rw [hsl]; exact k2_hasslot (q4 k hk)) rfl rfl hdg fun H' e1 e2 e3 => ?_
  rw [hsl] at e1 ⊢
  exact kk H' _ (hB.set he e2 e3 ⟨_, hc, t_OB.to (V := updV (vp_V fs) k v) ⟨_, e1, q2, q3, t_set q4 hap hk v⟩ (fun j _ => vp_updV_set hl v j)⟩ hm)
theorem b_i (hexec : p.tables.exec = Jvm.exec) (hb : c.code = cc) (hN : NK D cs s) (hB : Bx B0 D Hb ws ms H locs) (q0 : Nat) {n : Nat} {f : Nat → Int32} (ha : ws[q0]? = some (a, .inl (cs 0, n, .inl f))) {i : Int32} {x : Int32} (hin : vp_in i n) (hm : ms' = a :: ms ∨ (ms' = ms ∧ a ∈ ms)) (hdg : decode cc pc = .ok (.iastore, 1))
    (kk : ∀ (H1 : Heap) (locs1 : List Loc), Bx B0 D Hb (ws.set q0 (a, .inl (cs 0, n, .inl (upd f i.toNatClampNeg x)))) ms' H1 locs1 → W p l e R s m args below meth c H1 locs1 cells slots Q (F0 m (pc + 1) ls rest)) : W p l e R s m args below meth c H locs cells slots Q (F0 m pc ls (.int x :: .int i :: .ref a :: rest)) := by
  refine W.iast hexec hb (hB.1 q0 _ ha) ((hN.1.2 0 _ rfl).1 n (fun j => .int (f j))) (fun q => by cases q) (by show ¬ (i < 0 ∨ (arrV _ _ _).slots.size ≤ _); rw [arrV_size]; exact hin) rfl rfl hdg fun H1 e z oq => ?_
  refine kk H1 _ (hB.set ha z oq ?_ hm)
  show H1[a]? = some (vp_cell _ _)
  rw [e]
  rw [vp_cell_i, vp_cell_i, arrV_store]
  congr 2
  funext q
  by_cases hq : q = i.toNatClampNeg
  · subst hq
    simp [updV, upd]
  · simp [updV, upd, hq]
theorem b_b (hexec : p.tables.exec = Jvm.exec) (hb : c.code = cc) (hN : NK D cs s) (hB : Bx B0 D Hb ws ms H locs) (q0 : Nat) {n : Nat} {f : Nat → Int32} (ha : ws[q0]? = some (a, .inl (cs 1, n, .inl f))) {i : Int32} {x : Int32} (hin : vp_in i n) (hm : ms' = a :: ms ∨ (ms' = ms ∧ a ∈ ms)) (hdg : decode cc pc = .ok (.bastore, 1))
    (kk : ∀ (H1 : Heap) (locs1 : List Loc), Bx B0 D Hb (ws.set q0 (a, .inl (cs 1, n, .inl (upd f i.toNatClampNeg (vp_nar .byte x))))) ms' H1 locs1 → W p l e R s m args below meth c H1 locs1 cells slots Q (F0 m (pc + 1) ls rest)) : W p l e R s m args below meth c H locs cells slots Q (F0 m pc ls (.int x :: .int i :: .ref a :: rest)) := by
  refine W.bast hexec hb (hB.1 q0 _ ha) ((hN.1.2 1 _ rfl).1 n (fun j => .int (f j))) (fun q => by cases q) (by show ¬ (i < 0 ∨ (arrV _ _ _).slots.size ≤ _); rw [arrV_size]; exact hin) rfl rfl hdg fun H1 e z oq => ?_
  refine kk H1 _ (hB.set ha z oq ?_ hm)
  show H1[a]? = some (vp_cell _ _)
  rw [e]
  rw [vp_cell_i, vp_cell_i, arrV_store]
  congr 2
  funext q
  by_cases hq : q = i.toNatClampNeg
  · subst hq
    simp [updV, upd, vp_nar]
    rfl
  · simp [updV, upd, vp_nar, hq]
theorem b_z (hexec : p.tables.exec = Jvm.exec) (hb : c.code = cc) (hN : NK D cs s) (hB : Bx B0 D Hb ws ms H locs) (q0 : Nat) {n : Nat} {f : Nat → Int32} (ha : ws[q0]? = some (a, .inl (cs 2, n, .inl f))) {i : Int32} {x : Int32} (hin : vp_in i n) (hm : ms' = a :: ms ∨ (ms' = ms ∧ a ∈ ms)) (hdg : decode cc pc = .ok (.bastore, 1))
    (kk : ∀ (H1 : Heap) (locs1 : List Loc), Bx B0 D Hb (ws.set q0 (a, .inl (cs 2, n, .inl (upd f i.toNatClampNeg (vp_nar .boolean x))))) ms' H1 locs1 → W p l e R s m args below meth c H1 locs1 cells slots Q (F0 m (pc + 1) ls rest)) : W p l e R s m args below meth c H locs cells slots Q (F0 m pc ls (.int x :: .int i :: .ref a :: rest)) := by
  refine W.zast hexec hb (hB.1 q0 _ ha) ((hN.1.2 2 _ rfl).1 n (fun j => .int (f j))) (fun q => by cases q) (by show ¬ (i < 0 ∨ (arrV _ _ _).slots.size ≤ _); rw [arrV_size]; exact hin) rfl rfl hdg fun H1 e z oq => ?_
  refine kk H1 _ (hB.set ha z oq ?_ hm)
  show H1[a]? = some (vp_cell _ _)
  rw [e]
  rw [vp_cell_i, vp_cell_i, arrV_store]
  congr 2
  funext q
  by_cases hq : q = i.toNatClampNeg
  · subst hq
    simp [updV, upd, vp_nar]
    rfl
  · simp [updV, upd, vp_nar, hq]
theorem b_l (hexec : p.tables.exec = Jvm.exec) (hb : c.code = cc) (hN : NK D cs s) (hB : Bx B0 D Hb ws ms H locs) (q0 : Nat) {n : Nat} {f : Nat → Int64} (ha : ws[q0]? = some (a, .inl (cs 3, n, .inr (.inl f)))) {i : Int32} {x : Int64} (hin : vp_in i n) (hm : ms' = a :: ms ∨ (ms' = ms ∧ a ∈ ms)) (hdg : decode cc pc = .ok (.lastore, 1))
    (kk : ∀ (H1 : Heap) (locs1 : List Loc), Bx B0 D Hb (ws.set q0 (a, .inl (cs 3, n, .inr (.inl (vp_updL f i.toNatClampNeg x))))) ms' H1 locs1 → W p l e R s m args below meth c H1 locs1 cells slots Q (F0 m (pc + 1) ls rest)) : W p l e R s m args below meth c H locs cells slots Q (F0 m pc ls (.long x :: .int i :: .ref a :: rest)) := by
  refine W.last hexec hb (hB.1 q0 _ ha) ((hN.1.2 3 _ rfl).1 n (fun j => .long (f j))) (fun q => by cases q) (by show ¬ (i < 0 ∨ (arrV _ _ _).slots.size ≤ _); rw [arrV_size]; exact hin) rfl rfl hdg fun H1 e z oq => ?_
  refine kk H1 _ (hB.set ha z oq ?_ hm)
  show H1[a]? = some (vp_cell _ _)
  rw [e]
  rw [vp_cell_l, vp_cell_l, arrV_store]
  congr 2
  funext q
  by_cases hq : q = i.toNatClampNeg
  · subst hq
    simp [updV, vp_updL]
  · simp [updV, vp_updL, hq]
/-- a row of ints into an array of rows -/
theorem b_q (hexec : p.tables.exec = Jvm.exec) (hb : c.code = cc) (hN : NK D cs s) (hB : Bx B0 D Hb ws ms H locs) (q0 qk : Nat) {n v : Nat} {f : Nat → Option Nat} {x : vp_A} (ha : ws[q0]? = some (a, .inl (cs 6, n, .inr (.inr (.inr (.inr f)))))) (hv : ws[qk]? = some (v, .inl (cs 0, x))) {i : Int32} (hin : vp_in i n) (hm : ms' = a :: ms ∨ (ms' = ms ∧ a ∈ ms)) (hdg : decode cc pc = .ok (.aastore, 1))
    (kk : ∀ (H1 : Heap) (locs1 : List Loc), Bx B0 D Hb (ws.set q0 (a, .inl (cs 6, n, .inr (.inr (.inr (.inr (va_up f i.toNatClampNeg (some v)))))))) ms' H1 locs1 → W p l e R s m args below meth c H1 locs1 cells slots Q (F0 m (pc + 1) ls rest)) : W p l e R s m args below meth c H locs cells slots Q (F0 m pc ls (.ref v :: .int i :: .ref a :: rest)) := by
  have hlt : i.toNatClampNeg < n := Nat.not_le.mp fun q => hin (Or.inr q)
  have h0 : ¬ i < 0 := fun q => hin (Or.inl q)
  have g1 := hB.1 qk _ hv
  obtain ⟨comp, c6, k6, f1, -, f3, f4, f5⟩ := va_AOA_spec hN.2.2.2.2.2.1
  have r6 : s.vm.findClass ("[" ++ (FieldType.array .int).toString) = some (cs 6) := (hN.1.2 6 _ rfl).2
  have r0 : s.vm.findClass ("[" ++ FieldType.int.toString) = some (cs 0) := (hN.1.2 0 _ rfl).2
  obtain rfl : c6 = cs 6 := Option.some.inj (f5.symm.trans r6)
  obtain rfl : comp = cs 0 := Option.some.inj (f1.symm.trans r0)
  obtain ⟨-, k0, hk0, -⟩ := (hN.1.2 0 _ rfl).1 0 (fun _ => .int 0)
  have hk0 : s.vm.classes[cs 0]? = some k0 := hk0
  have hcv : (vp_cell (cs 0) x).cls = cs 0 ∧ (vp_cell (cs 0) x).vm = .none := by
    obtain ⟨n9, y⟩ := x
    rcases y with y | y | y | y | y <;> exact ⟨rfl, rfl⟩
  have g1 : H[v]? = some (vp_cell (cs 0) x) := g1
  refine W.aast hexec hb (hB.1 q0 _ ha) (fun q h => by cases h) (fun h => by cases h) f3 f4 rfl hk0 ⟨h0, by show _ < (arrV _ _ _).slots.size; rw [arrV_size]; exact hlt⟩ g1 (fun q h => by rw [hcv.2] at h; cases h) (by rw [hcv.1]; exact hk0) (by rw [hcv.1]; exact asg_self _ _) rfl rfl hdg fun H1 e z oq => ?_
  refine kk H1 _ (hB.set ha z oq ?_ hm)
  show H1[a]? = some (vp_cell _ _)
  rw [e]
  rw [vp_cell_q, vp_cell_q, arrV_store]
  congr 2
  funext q
  by_cases hq : q = i.toNatClampNeg
  · subst hq
    simp [updV, va_up, va_rf]
  · simp [updV, va_up, hq]
end BX
/-- one more cell is opened -/
theorem Bx.more {B0 : Nat} {D : va_G} {Hb : Heap} {ws : va_W} {ms : List Nat} {H : Heap} {locs : List Loc} (h : Bx B0 D Hb ws ms H locs) {x : Nat} {e : va_E} (hat : va_at D vwCl (x, e) Hb) (h0 : B0 ≤ x) (hx : ∀ q ∈ ws, q.1 ≠ x) (hm : ∀ q ∈ ms, q ≠ x) : Bx B0 D Hb (ws ++ [(x, e)]) ms H locs := by
  have hat' : va_at D vwCl (x, e) H := hat.kept (h.2.2.2.1 x hat.lt (fun g => hm x g rfl))
  refine ⟨h.1.app (va_P.cons hat' va_P.nil), h.2.1.app ⟨fun i j p q hi hj _ => ?_, fun k q hk => ?_⟩ (fun i j p q hi hj hpq => ?_), h.2.2⟩
  · have hi := (List.getElem?_eq_some_iff.mp hi).1
    have hj := (List.getElem?_eq_some_iff.mp hj).1
    simp at hi hj; omega
  · have hk1 := (List.getElem?_eq_some_iff.mp hk).1
    simp at hk1
    subst hk1
    cases hk
    exact h0
  · have hj1 := (List.getElem?_eq_some_iff.mp hj).1
    simp at hj1
    subst hj1
    cases hj
    exact hx p (List.mem_of_getElem? hi) hpq
theorem ne_c {κ : KM} {a b c d : Nat} (h1 : (κ a).1 = c) (h2 : (κ b).1 = d) (h : c ≠ d) : a ≠ b := fun e => h (by rw [← h1, ← h2, e])
theorem ne_o {κ : KM} {a b c d : Nat} (h1 : (κ a).2.1 = c) (h2 : (κ b).2.1 = d) (h : c ≠ d) : a ≠ b := fun e => h (by rw [← h1, ← h2, e])
theorem rng {x : Int32} {lo hi : Nat} (hl : lo < 2 ^ 31) (hh : hi < 2 ^ 31) (h1 : ¬ x < nI lo) (h2 : ¬ nI hi < x) : ∃ n, lo ≤ n ∧ n ≤ hi ∧ x = nI n := by
  rw [Int32.lt_iff_toInt_lt, nI_toInt hl] at h1
  rw [Int32.lt_iff_toInt_lt, nI_toInt hh] at h2
  refine ⟨x.toInt.toNat, by omega, by omega, ?_⟩
  rw [← Int32.toInt_inj, nI_toInt (by omega)]
  omega
theorem nI_mul (a b : Nat) : nI a * nI b = nI (a * b) := (Int32.ofNat_mul a b).symm
theorem nI_subN {a b : Nat} (h : b ≤ a) : nI a - nI b = nI (a - b) := by
  have e : nI a = nI (a - b) + nI b := by rw [nI_add, Nat.sub_add_cancel h]
  rw [e, Int32.add_sub_cancel]
theorem nI_min {a b : Nat} (ha : a < 2 ^ 31) (hb : b < 2 ^ 31) : ∃ m, (m ≤ a ∧ m ≤ b ∧ (m = a ∨ m = b)) ∧ (if nI b < nI a then nI b else nI a) = nI m := by
  by_cases h : nI b < nI a
  · rw [nI_ltI hb ha] at h
    exact ⟨b, ⟨by omega, by omega, Or.inr rfl⟩, by rw [if_pos (nI_lt h ha)]⟩
  · rw [nI_ltI hb ha] at h
    exact ⟨a, ⟨by omega, by omega, Or.inl rfl⟩, by rw [if_neg (fun g => h ((nI_ltI hb ha).mp g))]⟩
theorem nI_max {a b : Nat} (ha : a < 2 ^ 31) (hb : b < 2 ^ 31) : ∃ m, (a ≤ m ∧ b ≤ m ∧ (m = a ∨ m = b)) ∧ (if nI a < nI b then nI b else nI a) = nI m := by
  by_cases h : nI a < nI b
  · rw [nI_ltI ha hb] at h
    exact ⟨b, ⟨by omega, by omega, Or.inr rfl⟩, by rw [if_pos (nI_lt h hb)]⟩
  · rw [nI_ltI ha hb] at h
    exact ⟨a, ⟨by omega, by omega, Or.inl rfl⟩, by rw [if_neg (fun g => h ((nI_ltI ha hb).mp g))]⟩
theorem nI_decI {n k : Nat} (h : k ≤ n) : nI n + (-(nI k)) = nI (n - k) := by
  rw [← Int32.sub_eq_add_neg]; exact nI_subN h
def m7 (x : Int32) : Nat := x.toBitVec.toNat % 8
def m15 (x : Int32) : Nat := x.toBitVec.toNat % 16
/-- a place that a mask keeps small -/
theorem and7 (x : Int32) : x &&& 7 = nI (m7 x) := pk_and x (m := 7) 3 (by decide)
theorem and15 (x : Int32) : x &&& 15 = nI (m15 x) := pk_and x (m := 15) 4 (by decide)
theorem m7_lt (x : Int32) : m7 x < 8 := Nat.mod_lt _ (by decide)
theorem m15_lt (x : Int32) : m15 x < 16 := Nat.mod_lt _ (by decide)
theorem up01 {f : Nat → Int32} {n : Nat} (h : ∀ j, j < n → f j = 0 ∨ f j = 1) (k : Nat) {y : Int32} (hy : y = 0 ∨ y = 1) : ∀ j, j < n → upd f k y j = 0 ∨ upd f k y j = 1 := fun j hj => by
  by_cases e : j = k
  · subst e; rw [pk_us]; exact hy
  · rw [pk_un e]; exact h j hj
theorem upR {f : Nat → Int32} {n b : Nat} (h : ∀ j, j < n → ∃ c, c ≤ b ∧ f j = nI c) (k : Nat) {y : Nat} (hy : y ≤ b) : ∀ j, j < n → ∃ c, c ≤ b ∧ upd f k (nI y) j = nI c := fun j hj => by
  by_cases e : j = k
  · subst e; rw [pk_us]; exact ⟨y, hy, rfl⟩
  · rw [pk_un e]; exact h j hj
def plc (x y : Int32) : Nat := m7 x * 8 + m7 y
theorem plc_lt (x y : Int32) : plc x y < 64 := by
  have h1 := m7_lt x
  have h2 := m7_lt y
  unfold plc; omega
/-- a loop: by a measure; the heap may change -/
theorem lp_m {p : Program} {l : Launch} {e : Env} {R : Room} {s : State} {m : MethodId} {args : Array Value} {below : List Frame} {meth : Method} {c : Code} {cells slots : Nat} {Q : State → Prop} {pc : Nat} {α : Type} {nL : Nat} (meas : α → Nat) (Inv : α → Heap → List Loc → Prop) (lv : α → List (Nat × Value))
    (step : ∀ (a : α) (H : Heap) (locs : List Loc) (ls : Array Slot), (∀ (b : α) (H' : Heap) (locs' : List Loc) (ls' : Array Slot), meas b < meas a → Inv b H' locs' → lv_has ls' nL (lv b) → W p l e R s m args below meth c H' locs' cells slots Q (F0 m pc ls' [])) → Inv a H locs → lv_has ls nL (lv a) → W p l e R s m args below meth c H locs cells slots Q (F0 m pc ls [])) :
    ∀ (a : α) (H : Heap) (locs : List Loc) (ls : Array Slot), Inv a H locs → lv_has ls nL (lv a) → W p l e R s m args below meth c H locs cells slots Q (F0 m pc ls []) := by
  suffices K : ∀ (n : Nat) (a : α) (H : Heap) (locs : List Loc) (ls : Array Slot), meas a < n → Inv a H locs → lv_has ls nL (lv a) → W p l e R s m args below meth c H locs cells slots Q (F0 m pc ls []) from
    fun a H locs ls => K _ a H locs ls (Nat.lt_succ_self _)
  intro n
  induction n with
  | zero => intro a H locs ls h; exact absurd h (Nat.not_lt_zero _)
  | succ n ih => intro a H locs ls h hi hl; exact step a H locs ls (fun b H' locs' ls' hb => ih b H' locs' ls' (Nat.lt_of_lt_of_le hb (Nat.le_of_lt_succ h))) hi hl
/-- a loop that leaves the heap alone -/
theorem lp_r {p : Program} {l : Launch} {e : Env} {R : Room} {s : State} {m : MethodId} {args : Array Value} {below : List Frame} {meth : Method} {c : Code} {H : Heap} {cells slots : Nat} {Q : State → Prop} {pc B0 : Nat} {α : Type} {nL : Nat} (meas : α → Nat) (Inv : α → Prop) (lv : α → List (Nat × Value))
    (step : ∀ (a : α) (locs : List Loc) (ls : Array Slot), (∀ (b : α) (locs' : List Loc) (ls' : Array Slot), meas b < meas a → Inv b → OkL B0 locs' → lv_has ls' nL (lv b) → W p l e R s m args below meth c H locs' cells slots Q (F0 m pc ls' [])) → Inv a → OkL B0 locs → lv_has ls nL (lv a) → W p l e R s m args below meth c H locs cells slots Q (F0 m pc ls [])) :
    ∀ (a : α) (locs : List Loc) (ls : Array Slot), Inv a → OkL B0 locs → lv_has ls nL (lv a) → W p l e R s m args below meth c H locs cells slots Q (F0 m pc ls []) := by
  suffices K : ∀ (n : Nat) (a : α) (locs : List Loc) (ls : Array Slot), meas a < n → Inv a → OkL B0 locs → lv_has ls nL (lv a) → W p l e R s m args below meth c H locs cells slots Q (F0 m pc ls []) from
    fun a locs ls => K _ a locs ls (Nat.lt_succ_self _)
  intro n
  induction n with
  | zero => intro a locs ls h; exact absurd h (Nat.not_lt_zero _)
  | succ n ih => intro a locs ls h hi hL hl; exact step a locs ls (fun b locs' ls' hb => ih b locs' ls' (Nat.lt_of_lt_of_le hb (Nat.le_of_lt_succ h))) hi hL hl
theorem small_lt {y : Int32} {n : Nat} (h0 : ¬ y < 0) (h : ¬ nI n ≤ y) (hn : n < 2 ^ 31 := by omega) : ∃ k, k < n ∧ y = nI k := by
  obtain ⟨j, hj, rfl⟩ := nI_of h0
  rw [nI_leI hn hj] at h
  exact ⟨j, by omega, rfl⟩
