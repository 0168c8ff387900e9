def rowsF (l : List Nat) : Nat → Option Nat := fun i => l[i]?
theorem vin {i : Int32} {n : Nat} (h : decide (¬ (i < 0 ∨ n ≤ i.toNatClampNeg)) = true) : vp_in i n := (of_decide_eq_true h : ¬ (i < 0 ∨ n ≤ i.toNatClampNeg))
theorem upd_id {f : Nat → Int32} {j : Nat} {x : Int32} (h : f j = x) : upd f j x = f := by
  funext k
  by_cases e : k = j
  · subst e; rw [pk_us, h]
  · exact pk_un e
theorem upL_id {f : Nat → Int64} {j : Nat} {x : Int64} (h : f j = x) : vp_updL f j x = f := by
  funext k
  by_cases e : k = j
  · subst e; rw [pk_uLs, h]
  · exact pk_uLn e
theorem rows_mk (n : Nat) (r : Nat → Nat) : (fun i => if i < n then some (r i) else none) = rowsF ((List.range n).map r) := by
  funext i
  unfold rowsF
  by_cases h : i < n
  · rw [if_pos h, List.getElem?_map, List.getElem?_range h]; rfl
  · rw [if_neg h, List.getElem?_eq_none (by rw [List.length_map, List.length_range]; omega)]
theorem rows_pl (n : Nat) (r : Nat → Nat) (f : Nat → va_E) (e : va_E) : va_pl ([] ++ (List.range n).map r) (vr_up f ((List.range n).map r) e) = (List.range n).map (fun i => (r i, e)) := by
  rw [List.nil_append]
  unfold va_pl
  rw [List.map_map]
  refine List.map_congr_left fun i hi => ?_
  show (r i, vr_up f ((List.range n).map r) e (r i)) = (r i, e)
  rw [vr_up_in (List.mem_map.mpr ⟨i, hi, rfl⟩)]
theorem cpy_0 {α : Type} (f g : Nat → α) (sp dp : Nat) : va_cpy f g sp dp 0 = g := by
  funext k
  exact pk_cpy_out (by omega)
section RW
variable {p : Program} {l : Launch} {e : Env} {R : Room} {s : State} {m : MethodId} {args : Array Value} {below : List Frame} {meth : Method} {c : Code} {H : Heap} {locs : List Loc} {cells slots : Nat} {Q : State → Prop}
variable {cc : ByteArray} {pc : Nat} {ls : Array Slot} {rest : List Value} {D : va_G} {cs : Nat → ClassId} {A : Nat → Prop} {a : Nat} {ws : va_W} {H0 : Heap}
theorem ld_i (hx : p.tables.exec = Jvm.exec) (hb : c.code = cc) (hN : NK D cs s) (hP : va_P D vwCl ws H) (q0 : Nat) {n : Nat} {f : Nat → Int32} (ha : ws[q0]? = some (a, .inl (cs 0, n, .inl f))) {i : Int32} (hin : vp_in i n) {v : Int32} (hv : f i.toNatClampNeg = v) (hdg : decode cc pc = .ok (.iaload, 1))
    (kk : W p l e R s m args below meth c H locs cells slots Q (F0 m (pc + 1) ls (.int v :: rest))) : W p l e R s m args below meth c H locs cells slots Q (F0 m pc ls (.int i :: .ref a :: rest)) :=
  va_iald hx hb hN.1 hP q0 0 ha rfl hin hdg (by rw [hv]; exact kk)
theorem ld_b (hx : p.tables.exec = Jvm.exec) (hb : c.code = cc) (hN : NK D cs s) (hP : va_P D vwCl ws H) (q0 : Nat) {n : Nat} {f : Nat → Int32} (ha : ws[q0]? = some (a, .inl (cs 1, n, .inl f))) {i : Int32} (hin : vp_in i n) {v : Int32} (hv : f i.toNatClampNeg = v) (hdg : decode cc pc = .ok (.baload, 1))
    (kk : W p l e R s m args below meth c H locs cells slots Q (F0 m (pc + 1) ls (.int v :: rest))) : W p l e R s m args below meth c H locs cells slots Q (F0 m pc ls (.int i :: .ref a :: rest)) :=
  va_bald hx hb hN.1 hP q0 1 ha rfl hin hdg (by rw [hv]; exact kk)
theorem ld_z (hx : p.tables.exec = Jvm.exec) (hb : c.code = cc) (hN : NK D cs s) (hP : va_P D vwCl ws H) (q0 : Nat) {n : Nat} {f : Nat → Int32} (ha : ws[q0]? = some (a, .inl (cs 2, n, .inl f))) {i : Int32} (hin : vp_in i n) {v : Int32} (hv : f i.toNatClampNeg = v) (hdg : decode cc pc = .ok (.baload, 1))
    (kk : W p l e R s m args below meth c H locs cells slots Q (F0 m (pc + 1) ls (.int v :: rest))) : W p l e R s m args below meth c H locs cells slots Q (F0 m pc ls (.int i :: .ref a :: rest)) :=
  va_zald hx hb hN.1 hP q0 2 ha rfl hin hdg (by rw [hv]; exact kk)
theorem ld_l (hx : p.tables.exec = Jvm.exec) (hb : c.code = cc) (hN : NK D cs s) (hP : va_P D vwCl ws H) (q0 : Nat) {n : Nat} {f : Nat → Int64} (ha : ws[q0]? = some (a, .inl (cs 3, n, .inr (.inl f)))) {i : Int32} (hin : vp_in i n) {v : Int64} (hv : f i.toNatClampNeg = v) (hdg : decode cc pc = .ok (.laload, 1))
    (kk : W p l e R s m args below meth c H locs cells slots Q (F0 m (pc + 1) ls (.long v :: rest))) : W p l e R s m args below meth c H locs cells slots Q (F0 m pc ls (.int i :: .ref a :: rest)) :=
  va_lald hx hb hN.1 hP q0 3 ha rfl hin hdg (by rw [hv]; exact kk)
theorem ld_p (hx : p.tables.exec = Jvm.exec) (hb : c.code = cc) (hN : NK D cs s) (hP : va_P D vwCl ws H) (q0 : Nat) {n : Nat} {f : Nat → Option Nat} (ha : ws[q0]? = some (a, .inl (cs 4, n, .inr (.inr (.inr (.inr f)))))) {i : Int32} (hin : vp_in i n) {v : Value} (hv : va_rf (f i.toNatClampNeg) = v) (hdg : decode cc pc = .ok (.aaload, 1))
    (kk : W p l e R s m args below meth c H locs cells slots Q (F0 m (pc + 1) ls (v :: rest))) : W p l e R s m args below meth c H locs cells slots Q (F0 m pc ls (.int i :: .ref a :: rest)) :=
  va_aldq hx hb hN.1 hP q0 4 ha rfl hin hdg (by rw [hv]; exact kk)
theorem ld_w (hx : p.tables.exec = Jvm.exec) (hb : c.code = cc) (hN : NK D cs s) (hP : va_P D vwCl ws H) (q0 : Nat) {n : Nat} {f : Nat → Option Nat} (ha : ws[q0]? = some (a, .inl (cs 5, n, .inr (.inr (.inr (.inr f)))))) {i : Int32} (hin : vp_in i n) {v : Value} (hv : va_rf (f i.toNatClampNeg) = v) (hdg : decode cc pc = .ok (.aaload, 1))
    (kk : W p l e R s m args below meth c H locs cells slots Q (F0 m (pc + 1) ls (v :: rest))) : W p l e R s m args below meth c H locs cells slots Q (F0 m pc ls (.int i :: .ref a :: rest)) :=
  va_aldq hx hb hN.1 hP q0 5 ha rfl hin hdg (by rw [hv]; exact kk)
theorem ld_a (hx : p.tables.exec = Jvm.exec) (hb : c.code = cc) (hN : NK D cs s) (hP : va_P D vwCl ws H) (q0 : Nat) {n : Nat} {f : Nat → Option Nat} (ha : ws[q0]? = some (a, .inl (cs 6, n, .inr (.inr (.inr (.inr f)))))) {i : Int32} (hin : vp_in i n) {v : Value} (hv : va_rf (f i.toNatClampNeg) = v) (hdg : decode cc pc = .ok (.aaload, 1))
    (kk : W p l e R s m args below meth c H locs cells slots Q (F0 m (pc + 1) ls (v :: rest))) : W p l e R s m args below meth c H locs cells slots Q (F0 m pc ls (.int i :: .ref a :: rest)) :=
  va_alda hx hb hN.1 hP q0 6 ha rfl hin hdg (by rw [hv]; exact kk)
theorem st_i (hx : p.tables.exec = Jvm.exec) (hb : c.code = cc) (hN : NK D cs s) (hP : va_P D vwCl ws H) (hD : va_D A ws) (hS : va_S A H0 H locs) (q0 : Nat) {n : Nat} {f g : Nat → Int32} (ha : ws[q0]? = some (a, .inl (cs 0, n, .inl f))) {i : Int32} {x : Int32} (hin : vp_in i n) (hg : upd f i.toNatClampNeg x = g) (hdg : decode cc pc = .ok (.iastore, 1))
    (kk : ∀ (H1 : Heap) (locs1 : List Loc), va_P D vwCl (ws.set q0 (a, .inl (cs 0, n, .inl g))) H1 → va_D A (ws.set q0 (a, .inl (cs 0, n, .inl g))) → va_S A H0 H1 locs1 → W p l e R s m args below meth c H1 locs1 cells slots Q (F0 m (pc + 1) ls rest)) : W p l e R s m args below meth c H locs cells slots Q (F0 m pc ls (.int x :: .int i :: .ref a :: rest)) := by
  subst hg
  exact va_iast hx hb hN.1 hP hD hS q0 0 ha rfl hin hdg kk
theorem st_b (hx : p.tables.exec = Jvm.exec) (hb : c.code = cc) (hN : NK D cs s) (hP : va_P D vwCl ws H) (hD : va_D A ws) (hS : va_S A H0 H locs) (q0 : Nat) {n : Nat} {f g : Nat → Int32} (ha : ws[q0]? = some (a, .inl (cs 1, n, .inl f))) {i : Int32} {x : Int32} (hin : vp_in i n) (hg : upd f i.toNatClampNeg (vp_nar .byte x) = g) (hdg : decode cc pc = .ok (.bastore, 1))
    (kk : ∀ (H1 : Heap) (locs1 : List Loc), va_P D vwCl (ws.set q0 (a, .inl (cs 1, n, .inl g))) H1 → va_D A (ws.set q0 (a, .inl (cs 1, n, .inl g))) → va_S A H0 H1 locs1 → W p l e R s m args below meth c H1 locs1 cells slots Q (F0 m (pc + 1) ls rest)) : W p l e R s m args below meth c H locs cells slots Q (F0 m pc ls (.int x :: .int i :: .ref a :: rest)) := by
  subst hg
  exact va_bast hx hb hN.1 hP hD hS q0 1 ha rfl hin hdg kk
theorem st_z (hx : p.tables.exec = Jvm.exec) (hb : c.code = cc) (hN : NK D cs s) (hP : va_P D vwCl ws H) (hD : va_D A ws) (hS : va_S A H0 H locs) (q0 : Nat) {n : Nat} {f g : Nat → Int32} (ha : ws[q0]? = some (a, .inl (cs 2, n, .inl f))) {i : Int32} {x : Int32} (hin : vp_in i n) (hg : upd f i.toNatClampNeg (vp_nar .boolean x) = g) (hdg : decode cc pc = .ok (.bastore, 1))
    (kk : ∀ (H1 : Heap) (locs1 : List Loc), va_P D vwCl (ws.set q0 (a, .inl (cs 2, n, .inl g))) H1 → va_D A (ws.set q0 (a, .inl (cs 2, n, .inl g))) → va_S A H0 H1 locs1 → W p l e R s m args below meth c H1 locs1 cells slots Q (F0 m (pc + 1) ls rest)) : W p l e R s m args below meth c H locs cells slots Q (F0 m pc ls (.int x :: .int i :: .ref a :: rest)) := by
  subst hg
  exact va_zast hx hb hN.1 hP hD hS q0 2 ha rfl hin hdg kk
theorem st_l (hx : p.tables.exec = Jvm.exec) (hb : c.code = cc) (hN : NK D cs s) (hP : va_P D vwCl ws H) (hD : va_D A ws) (hS : va_S A H0 H locs) (q0 : Nat) {n : Nat} {f g : Nat → Int64} (ha : ws[q0]? = some (a, .inl (cs 3, n, .inr (.inl f)))) {i : Int32} {x : Int64} (hin : vp_in i n) (hg : vp_updL f i.toNatClampNeg x = g) (hdg : decode cc pc = .ok (.lastore, 1))
    (kk : ∀ (H1 : Heap) (locs1 : List Loc), va_P D vwCl (ws.set q0 (a, .inl (cs 3, n, .inr (.inl g)))) H1 → va_D A (ws.set q0 (a, .inl (cs 3, n, .inr (.inl g)))) → va_S A H0 H1 locs1 → W p l e R s m args below meth c H1 locs1 cells slots Q (F0 m (pc + 1) ls rest)) : W p l e R s m args below meth c H locs cells slots Q (F0 m pc ls (.long x :: .int i :: .ref a :: rest)) := by
  subst hg
  exact va_last hx hb hN.1 hP hD hS q0 3 ha rfl hin hdg kk
theorem st_p (hx : p.tables.exec = Jvm.exec) (hb : c.code = cc) (hN : NK D cs s) (hP : va_P D vwCl ws H) (hD : va_D A ws) (hS : va_S A H0 H locs) (q0 : Nat) {n v : Nat} {vs : List Value} {f g : Nat → Option Nat} (ha : ws[q0]? = some (a, .inl (cs 4, n, .inr (.inr (.inr (.inr f)))))) (qk : Nat) (hv : ws[qk]? = some (v, .inr (3, vs))) {i : Int32} (hin : vp_in i n) (hg : va_up f i.toNatClampNeg (some v) = g) (hdg : decode cc pc = .ok (.aastore, 1))
    (kk : ∀ (H1 : Heap) (locs1 : List Loc), va_P D vwCl (ws.set q0 (a, .inl (cs 4, n, .inr (.inr (.inr (.inr g)))))) H1 → va_D A (ws.set q0 (a, .inl (cs 4, n, .inr (.inr (.inr (.inr g)))))) → va_S A H0 H1 locs1 → W p l e R s m args below meth c H1 locs1 cells slots Q (F0 m (pc + 1) ls rest)) : W p l e R s m args below meth c H locs cells slots Q (F0 m pc ls (.ref v :: .int i :: .ref a :: rest)) := by
  subst hg
  exact va_astq (r := (RX3, TX3, 10)) hx hb hN.1 hP hD hS q0 4 qk 3 ha rfl hv rfl hin hdg kk
theorem st_w (hx : p.tables.exec = Jvm.exec) (hb : c.code = cc) (hN : NK D cs s) (hP : va_P D vwCl ws H) (hD : va_D A ws) (hS : va_S A H0 H locs) (q0 : Nat) {n v : Nat} {vs : List Value} {f g : Nat → Option Nat} (ha : ws[q0]? = some (a, .inl (cs 5, n, .inr (.inr (.inr (.inr f)))))) (qk : Nat) (hv : ws[qk]? = some (v, .inr (7, vs))) {i : Int32} (hin : vp_in i n) (hg : va_up f i.toNatClampNeg (some v) = g) (hdg : decode cc pc = .ok (.aastore, 1))
    (kk : ∀ (H1 : Heap) (locs1 : List Loc), va_P D vwCl (ws.set q0 (a, .inl (cs 5, n, .inr (.inr (.inr (.inr g)))))) H1 → va_D A (ws.set q0 (a, .inl (cs 5, n, .inr (.inr (.inr (.inr g)))))) → va_S A H0 H1 locs1 → W p l e R s m args below meth c H1 locs1 cells slots Q (F0 m (pc + 1) ls rest)) : W p l e R s m args below meth c H locs cells slots Q (F0 m pc ls (.ref v :: .int i :: .ref a :: rest)) := by
  subst hg
  exact va_astq (r := (RX7, TX7, 16)) hx hb hN.1 hP hD hS q0 5 qk 7 ha rfl hv rfl hin hdg kk
theorem cp_0 (hexec : p.tables.exec = Jvm.exec) (hb : c.code = cc) (hml : c.maxLocals = ls.size) {own : String} {index : Nat} (hown : s.vm.findClass own = some m.cls) (hlink : (Cond.methodLink own index arraycopyName).before args s = true) (hnat : (Cond.native arraycopyName).before args s = true) (hstat : (Cond.static arraycopyName).before args s = true) (hini : (Cond.initialized "java/lang/System").before args s = true)
    (hN : NK D cs s) (hP : va_P D vwCl ws H) (hD : va_D A ws) (hS : va_S A H0 H locs) (q0 q1 : Nat) {a0 : Nat} {n0 n1 : Nat} {f g : Nat → Int32} (ha0 : ws[q0]? = some (a0, .inl (cs 0, n0, .inl f))) (ha1 : ws[q1]? = some (a, .inl (cs 0, n1, .inl g)))
    {sp dp : Int32} (h1 : ¬ sp < 0) (h2 : ¬ dp < 0) (h4 : sp.toNatClampNeg ≤ n0) (h5 : dp.toNatClampNeg ≤ n1)
    (hframes : 1 ≤ R.frames) (hlocals : (rest.map fun v => v.category).sum + (nativeFrameWords "java/lang/System" "arraycopy" 5 + 11) ≤ R.locals) (hdg : decode cc pc = .ok (.invokestatic index, 3))
    (kk : ∀ (H1 : Heap) (locs1 : List Loc), va_P D vwCl (ws.set q1 (a, .inl (cs 0, n1, .inl g))) H1 → va_D A (ws.set q1 (a, .inl (cs 0, n1, .inl g))) → va_S A H0 H1 locs1 → W p l e R s m args below meth c H1 locs1 cells slots Q (F0 m (pc + 3) ls rest)) : W p l e R s m args below meth c H locs cells slots Q (F0 m pc ls (.int 0 :: .int dp :: .ref a :: .int sp :: .ref a0 :: rest)) := by
  refine va_copyi (n := 0) hexec hb hml hown hlink hnat hstat hini hN.1 hP hD hS q0 q1 0 0 ha0 ha1 rfl rfl rfl h1 h2 (by decide) h4 h5 (fun i hi => absurd hi (by rw [show (0 : Int32).toNatClampNeg = 0 from rfl]; omega)) hframes hlocals hdg ?_
  rw [show (0 : Int32).toNatClampNeg = 0 from rfl, cpy_0]
  exact kk
/-- new int[N'][K'] -/
theorem na_m {X : va_W} {own : String} {index : Nat} (hN : NK D cs s) (hexec : p.tables.exec = Jvm.exec) (hb : c.code = cc) (hown : s.vm.findClass own = some m.cls) (hclink : (Cond.classLink own index "[[I").before args s = true) (harr : (Cond.arrayClass .int).before args s = true) (hP : va_P D vwCl X H) (hD : va_D A X) (hS : va_S A H0 H locs) (hA : ∀ q, H0.size ≤ q → A q)
    {n k : Int32} {N' K' : Nat} (hn : ¬ n < 0) (hk : ¬ k < 0) (hN' : n.toNatClampNeg = N') (hM : k.toNatClampNeg = K') (hb1 : N' * 4 ≤ 536870912) (hb2 : K' * componentBytes .int ≤ 536870912) (hb3 : K' ≤ 536870912) (hcells : cells + (1 + N') ≤ R.cells) (hslots : slots + (N' + N' * K') ≤ R.slots) (hdg : decode cc pc = .ok (.multianewarray index 2, 4))
    (kk : ∀ (q : Nat) (r : Nat → Nat) (H1 : Heap) (locs1 : List Loc), va_P D vwCl ((X ++ [(q, .inl (cs 6, N', .inr (.inr (.inr (.inr (rowsF ((List.range N').map r)))))))]) ++ (List.range N').map (fun i => (r i, .inl (cs 0, K', .inl (fun _ => 0))))) H1 → va_D A ((X ++ [(q, .inl (cs 6, N', .inr (.inr (.inr (.inr (rowsF ((List.range N').map r)))))))]) ++ (List.range N').map (fun i => (r i, .inl (cs 0, K', .inl (fun _ => 0))))) → va_S A H0 H1 locs1 →
      W p l e R s m args below meth c H1 locs1 (cells + 1 + N') (slots + N' + N' * K') Q (F0 m (pc + 4) ls (.ref q :: rest))) : W p l e R s m args below meth c H locs cells slots Q (F0 m pc ls (.int k :: .int n :: rest)) := by
  have hP0 : va_P D vwCl (X ++ va_pl [] (fun _ => .inl (cs 0, 0, .inl (fun _ => 0)))) H := by rw [show va_pl [] (fun _ => (.inl (cs 0, 0, .inl (fun _ => 0)) : va_E)) = [] from rfl, List.append_nil]; exact hP
  have hD0 : va_D A (X ++ va_pl [] (fun _ => .inl (cs 0, 0, .inl (fun _ => 0)))) := by rw [show va_pl [] (fun _ => (.inl (cs 0, 0, .inl (fun _ => 0)) : va_E)) = [] from rfl, List.append_nil]; exact hD
  refine va_mna (ty := .int) (cy := cs 0) (z := (K', .inl (fun _ => 0))) hexec hb hown hclink hN.2.2.2.2.2.1 harr (hN.1.2 0 _ rfl).2 hN.1 hP0 hD0 hS hA hn hk hN' hM hb1 hb2 hb3 (by decide) (by decide) hcells hslots (fun c9 => ?_) hdg (fun q r cA H1 hi hn9 hK1 hP1 hD1 hS1 => ?_)
  · show ({ cls := c9, slots := Array.replicate K' (.int 0), vm := .none } : Cell) = _
    rw [arrV_new]
    rfl
  · have e : cA = cs 6 := ra_one (hK1.2 7 (cA, .array .int) rfl).2 (hN.1.2 6 _ rfl).2
    subst e
    rw [rows_mk, rows_pl] at hP1 hD1
    exact kk q r H1 _ hP1 hD1 hS1
end RW
theorem upd_2 (f : Nat → Int32) (k : Nat) (x y : Int32) : upd (upd f k x) k y = upd f k y := by
  funext j
  by_cases e : j = k
  · subst e; rw [pk_us, pk_us]
  · rw [pk_un e, pk_un e, pk_un e]
