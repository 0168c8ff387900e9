/-- the law's word list in blocks -/
def lawB : List (List Cond) := [wsL_law0_r1, wsL_law0_r2, wsL_law0_r3, wsL_law0_r4, wsL_law0_r5, wsL_law0_r6, wsL_law0_r7, wsL_law0_r8, wsL_law0_r9, wsL_law0_r10, wsL_law0_r11, wsL_law0_r12, wsL_law0_r13, wsL_law0_r14, wsL_law0_r15, wsL_law0_r16, wsL_law0_r17, wsL_law0_r18, wsL_law0_r19, wsL_law0_r20, wsL_law0_r21, wsL_law0_r22, wsL_law0_r23, wsL_law0_r24, wsL_law0_r25, wsL_law0_r26, wsL_law0_r27, wsL_law0_r28, wsL_law0_r29, wsL_law0_r30, wsL_law0_r31, wsL_law0_r32, wsL_law0_r33, wsL_law0_r34, wsL_law0_r35, wsL_law0_r36, wsL_law0_r37, wsL_law0_r38, wsL_law0_r39, wsL_law0_r40, wsL_law0_r41, wsL_law0_r42, wsL_law0_r43, wsL_law0_r44, wsL_law0_r45, wsX80, wsX90, wsX50, wsX70, wsX20, wsX40, wsX10, wsX30, wsX60, wsX00]
theorem goodIn_b {big : List Cond} (bs : List (List Cond)) (hb : ∀ b ∈ bs, ∀ w ∈ b, w ∈ big) (ws : List Cond) (ps : List (Nat × Nat)) (hp : ws = ps.filterMap (fun p => (bs[p.1]?).bind (fun b => b[p.2]?))) (h : ws.all goodWord = true) : GoodIn big ws := by
  refine goodIn_sub ?_ h
  intro w hw
  rw [hp] at hw
  obtain ⟨p, _, h2⟩ := List.mem_filterMap.mp hw
  cases h1 : bs[p.1]? with
  | none => rw [h1] at h2; exact absurd h2 (by simp)
  | some b => rw [h1] at h2; exact hb b (by first | exact List.mem_of_getElem? h1 | exact List.getElem?_mem h1) w (by first | exact List.mem_of_getElem? h2 | exact List.getElem?_mem h2)
theorem lawB_in : ∀ b ∈ lawB, ∀ w ∈ b, w ∈ wsL_law := by
  intro b hb w hw
  have h1 : w ∈ lawB.flatten := List.mem_flatten.mpr ⟨b, hb, hw⟩
  have h2 : w ∈ wsL_law0 := by
    have e : wsL_law0 = lawB.flatten := by
      simp only [wsL_law0, lawB, List.flatten_cons, List.flatten_nil, List.append_assoc, List.append_nil]
    rw [e]; exact h1
  exact List.mem_append_left _ (List.mem_append_left _ (List.mem_append_left _ (List.mem_append_left _ h2)))
