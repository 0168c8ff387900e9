def cpF (i : Nat) (f g : Nat → Int32) : Nat → Int32 := fun j => if j < i then f j else g j
theorem cpF_0 (f g : Nat → Int32) : cpF 0 f g = g := by
  funext j
  unfold cpF
  rw [if_neg (Nat.not_lt_zero j)]
theorem cpF_s (i : Nat) (f g : Nat → Int32) : upd (cpF i f g) i (f i) = cpF (i + 1) f g := by
  funext j
  unfold upd cpF
  by_cases e : j = i
  · subst e
    rw [if_pos rfl, if_pos (Nat.lt_succ_self j)]
  · rw [if_neg e]
    by_cases h : j < i
    · rw [if_pos h, if_pos (Nat.lt_succ_of_lt h)]
    · rw [if_neg h, if_neg (by omega)]
section LP
variable {p : Program} {l : Launch} {e : Env} {R : Room} {s : State} {m : MethodId} {args : Array Value} {below : List Frame} {meth : Method} {c : Code} {cells slots : Nat} {Q : State → Prop}
variable {D : va_G} {cs : Nat → ClassId} {A : Nat → Prop} {H0 : Heap}
/-- layPlayers' first loop over a row of zeros -/
theorem z_loop (hx : p.tables.exec = Jvm.exec) (hb : c.code = cX9_layPlayers) (hN : NK D cs s) {a n : Nat} {x : Int32} (hn : 1383 ≤ n) (hn2 : n < 2 ^ 31)
    (kk : ∀ (H : Heap) (locs : List Loc) (ls : Array Slot), va_P D vwCl [(a, .inl (cs 0, n, .inl (fun _ => 0)))] H → va_D A [(a, .inl (cs 0, n, .inl (fun _ => 0)))] → va_S A H0 H locs → lv_has ls 3 [(2, .int (nI 1383)), (0, .ref a), (1, .int x)] → W p l e R s m args below meth c H locs cells slots Q (F0 m 19 ls [])) :
    ∀ (k i : Nat), i + k = 1383 → ∀ (H : Heap) (locs : List Loc) (ls : Array Slot), va_P D vwCl [(a, .inl (cs 0, n, .inl (fun _ => 0)))] H → va_D A [(a, .inl (cs 0, n, .inl (fun _ => 0)))] → va_S A H0 H locs → lv_has ls 3 [(2, .int (nI i)), (0, .ref a), (1, .int x)] → W p l e R s m args below meth c H locs cells slots Q (F0 m 2 ls []) := by
  intro k
  induction k with
  | zero =>
    intro i hi H locs ls hP hD hS hl
    have hi : i = 1383 := hi
    subst hi
    refine lv_iload_n hx hb dX9_layPlayers_2 rfl (lv_at hl 0 rfl) ?_
    refine lv_sipush (v := 1383) hx hb dX9_layPlayers_3 (by decide) ?_
    refine lv_icmp_ge (tgt := 19) hx hb dX9_layPlayers_6 (by decide) (fun _ => ?_) (fun c9 => absurd (nI_le (a := 1383) (b := 1383) (Nat.le_refl _) (by decide)) c9)
    exact kk H locs ls hP hD hS hl
  | succ k ih =>
    intro i hi H locs ls hP hD hS hl
    have hlt : i < 1383 := by omega
    refine lv_iload_n hx hb dX9_layPlayers_2 rfl (lv_at hl 0 rfl) ?_
    refine lv_sipush (v := 1383) hx hb dX9_layPlayers_3 (by decide) ?_
    refine lv_icmp_ge (tgt := 19) hx hb dX9_layPlayers_6 (by decide) (fun c9 => absurd c9 (nI_ge (a := i) (b := 1383) hlt (by decide))) (fun _ => ?_)
    refine lv_aload_n hx hb dX9_layPlayers_9 rfl (lv_at hl 1 rfl) ?_
    refine lv_iload_n hx hb dX9_layPlayers_10 rfl (lv_at hl 0 rfl) ?_
    refine lv_iconst (v := 0) hx hb dX9_layPlayers_11 (by decide) ?_
    refine st_i (g := fun _ => 0) hx hb hN hP hD hS 0 rfl (vp_in_nI (by omega) hn2) (upd_id rfl) dX9_layPlayers_12 (fun H locs hP hD hS => ?_)
    refine lv_iinc (v := nI (i + 1)) (lv' := [(2, .int (nI (i + 1))), (0, .ref a), (1, .int x)]) hx hb dX9_layPlayers_13 hl (k := 0) rfl (nI_1 i) (by decide) rfl (fun ls hl => ?_)
    refine lv_goto (tgt := 2) hx hb dX9_layPlayers_16 (by decide) ?_
    exact ih (i + 1) (by omega) H locs ls hP hD hS hl
/-- copy's loop -/
theorem c_loop (hx : p.tables.exec = Jvm.exec) (hb : c.code = cX9_copy) (hN : NK D cs s) {a b n1 n2 : Nat} {f g : Nat → Int32} (h1 : 1383 ≤ n1) (h12 : n1 < 2 ^ 31) (h2 : 1383 ≤ n2) (h22 : n2 < 2 ^ 31)
    (kk : ∀ (H : Heap) (locs : List Loc) (ls : Array Slot), va_P D vwCl [(a, .inl (cs 0, n1, .inl f)), (b, .inl (cs 0, n2, .inl (cpF 1383 f g)))] H → va_D A [(a, .inl (cs 0, n1, .inl f)), (b, .inl (cs 0, n2, .inl (cpF 1383 f g)))] → va_S A H0 H locs → lv_has ls 4 [(3, .int (nI 1383)), (2, .int 1383), (0, .ref a), (1, .ref b)] → W p l e R s m args below meth c H locs cells slots Q (F0 m 30 ls [])) :
    ∀ (k i : Nat), i + k = 1383 → ∀ (H : Heap) (locs : List Loc) (ls : Array Slot), va_P D vwCl [(a, .inl (cs 0, n1, .inl f)), (b, .inl (cs 0, n2, .inl (cpF i f g)))] H → va_D A [(a, .inl (cs 0, n1, .inl f)), (b, .inl (cs 0, n2, .inl (cpF i f g)))] → va_S A H0 H locs → lv_has ls 4 [(3, .int (nI i)), (2, .int 1383), (0, .ref a), (1, .ref b)] → W p l e R s m args below meth c H locs cells slots Q (F0 m 13 ls []) := by
  intro k
  induction k with
  | zero =>
    intro i hi H locs ls hP hD hS hl
    have hi : i = 1383 := hi
    subst hi
    refine lv_iload_n hx hb dX9_copy_13 rfl (lv_at hl 0 rfl) ?_
    refine lv_iload_n hx hb dX9_copy_14 rfl (lv_at hl 1 rfl) ?_
    refine lv_icmp_ge (tgt := 30) hx hb dX9_copy_15 (by decide) (fun _ => ?_) (fun c9 => absurd (nI_le (a := 1383) (b := 1383) (Nat.le_refl _) (by decide)) c9)
    exact kk H locs ls hP hD hS hl
  | succ k ih =>
    intro i hi H locs ls hP hD hS hl
    have hlt : i < 1383 := by omega
    refine lv_iload_n hx hb dX9_copy_13 rfl (lv_at hl 0 rfl) ?_
    refine lv_iload_n hx hb dX9_copy_14 rfl (lv_at hl 1 rfl) ?_
    refine lv_icmp_ge (tgt := 30) hx hb dX9_copy_15 (by decide) (fun c9 => absurd c9 (nI_ge (a := i) (b := 1383) hlt (by decide))) (fun _ => ?_)
    refine lv_aload_n hx hb dX9_copy_18 rfl (lv_at hl 3 rfl) ?_
    refine lv_iload_n hx hb dX9_copy_19 rfl (lv_at hl 0 rfl) ?_
    refine lv_aload_n hx hb dX9_copy_20 rfl (lv_at hl 2 rfl) ?_
    refine lv_iload_n hx hb dX9_copy_21 rfl (lv_at hl 0 rfl) ?_
    refine ld_i (v := f i) hx hb hN hP 0 rfl (vp_in_nI (by omega) h12) (by rw [nI_clamp (by omega)]) dX9_copy_22 ?_
    refine st_i (g := cpF (i + 1) f g) hx hb hN hP hD hS 1 rfl (vp_in_nI (by omega) h22) (by rw [nI_clamp (by omega)]; exact cpF_s i f g) dX9_copy_23 (fun H locs hP hD hS => ?_)
    refine lv_iinc (v := nI (i + 1)) (lv' := [(3, .int (nI (i + 1))), (2, .int 1383), (0, .ref a), (1, .ref b)]) hx hb dX9_copy_24 hl (k := 0) rfl (nI_1 i) (by decide) rfl (fun ls hl => ?_)
    refine lv_goto (tgt := 13) hx hb dX9_copy_27 (by decide) ?_
    exact ih (i + 1) (by omega) H locs ls hP hD hS hl
end LP
def layF (f : Nat → Int32) (x : Int32) : Nat → Int32 :=
  let g0 := upd (upd (upd (upd (upd f 0 x) 11 x) 12 50) 21 (-1)) 22 (-1)
  let g1 := upd (upd (upd g0 23 1) 29 (-1)) 34 (-1)
  let g2 := upd (upd (upd g1 35 1) 41 (-1)) 46 (-1)
  let g3 := upd (upd (upd g2 47 1) 53 (-1)) 58 (-1)
  let g4 := upd (upd (upd g3 59 1) 65 (-1)) 70 (-1)
  let g5 := upd (upd (upd g4 71 1) 77 (-1)) 82 (-1)
  let g6 := upd (upd (upd g5 83 1) 89 (-1)) 94 (-1)
  let g7 := upd (upd (upd g6 95 1) 101 (-1)) 106 (-1)
  upd (upd (upd g7 107 1) 113 (-1)) 118 (-1)
