set_option maxHeartbeats 4000000 in
set_option maxRecDepth 100000 in
theorem k457_L_propose (l : Launch) (D : va_G) (cs : Nat → ClassId) (sz : Nat) (hlt : l.stackTraces = false) (a0 a1 a2 a3 a4 a5 a6 a7 a8 a9 a10 a11 a12 a13 a14 a15 a16 a17 a18 a19 a20 a21 a22 a23 a24 a25 a26 a27 a28 a29 a30 a31 a32 a33 a34 a35 a36 a37 a38 a39 a40 a41 a42 a43 a44 a45 a46 a47 a48 a49 a50 a51 a52 a53 a54 a55 a56 a57 a58 a59 a60 a61 a62 a63 a64 a65 a66 a67 a68 a69 a70 a71 a72 a73 a74 a75 a76 a77 a78 a79 a80 a81 : Nat) (x0 : Int32) (hf0 : ¬ x0 < 0) (hf1 : x0 ≤ 99) : KH l yL_propose wsL_propose 6 147 0 0 D cs sz [.ref a0, .int x0, .ref a66] [(a0, .inr (8, [.ref a67, .ref a1, .ref a68, .ref a5, .int 0, .int 0, .int (-1)])), (a1, .inr (7, [.ref a62, .ref a2, .ref a24, .ref a4, .ref a69, .ref a70, .long 0, .int 0, .int 0, .int 0, .int 0, .int 0, .int 0, .int 0, .int 0, .int 0])), (a2, .inl (cs 4, 8, .inr (.inr (.inr (.inr (va_up (va_up (va_up (va_up (va_up (va_up (va_up (va_up (fun _ => none) 0 (some a3)) 1 (some a10)) 2 (some a12)) 3 (some a14)) 4 (some a16)) 5 (some a18)) 6 (some a20)) 7 (some a22))))))), (a3, .inr (3, [.int 1, .int 0, .int 0, .int 0, .int (-1), .int 0, .int 0, .int 0, .int 0, .int (-1)])), (a4, .inr (4, [.int 0, .int 0, .int 0, .int 0, .int 0, .int 3, .int (-1), .int 0])), (a5, .inl (cs 5, 8, .inr (.inr (.inr (.inr (va_up (va_up (va_up (va_up (va_up (va_up (va_up (va_up (fun _ => none) 0 (some a71)) 1 (some a6)) 2 (some a72)) 3 (some a73)) 4 (some a74)) 5 (some a75)) 6 (some a76)) 7 (some a77))))))), (a6, .inr (7, [.ref a78, .ref a7, .ref a23, .ref a61, .ref a79, .ref a80, .long 0, .int 0, .int 0, .int 0, .int 0, .int 0, .int 0, .int 0, .int 0, .int 0])), (a7, .inl (cs 4, 8, .inr (.inr (.inr (.inr (va_up (va_up (va_up (va_up (va_up (va_up (va_up (va_up (fun _ => none) 0 (some a8)) 1 (some a9)) 2 (some a11)) 3 (some a13)) 4 (some a15)) 5 (some a17)) 6 (some a19)) 7 (some a21))))))), (a8, .inr (3, [.int 1, .int 0, .int 0, .int 0, .int (-1), .int 0, .int 0, .int 0, .int 0, .int (-1)])), (a9, .inr (3, [.int 1, .int 0, .int 0, .int 0, .int (-1), .int 0, .int 0, .int 0, .int 0, .int (-1)])), (a10, .inr (3, [.int 1, .int 0, .int 0, .int 0, .int (-1), .int 0, .int 0, .int 0, .int 0, .int (-1)])), (a11, .inr (3, [.int 1, .int 0, .int 0, .int 0, .int (-1), .int 0, .int 0, .int 0, .int 0, .int (-1)])), (a12, .inr (3, [.int 1, .int 0, .int 0, .int 0, .int (-1), .int 0, .int 0, .int 0, .int 0, .int (-1)])), (a13, .inr (3, [.int 1, .int 0, .int 0, .int 0, .int (-1), .int 0, .int 0, .int 0, .int 0, .int (-1)])), (a14, .inr (3, [.int 1, .int 0, .int 0, .int 0, .int (-1), .int 0, .int 0, .int 0, .int 0, .int (-1)])), (a15, .inr (3, [.int 1, .int 0, .int 0, .int 0, .int (-1), .int 0, .int 0, .int 0, .int 0, .int (-1)])), (a16, .inr (3, [.int 1, .int 0, .int 0, .int 0, .int (-1), .int 0, .int 0, .int 0, .int 0, .int (-1)])), (a17, .inr (3, [.int 1, .int 0, .int 0, .int 0, .int (-1), .int 0, .int 0, .int 0, .int 0, .int (-1)])), (a18, .inr (3, [.int 1, .int 0, .int 0, .int 0, .int (-1), .int 0, .int 0, .int 0, .int 0, .int (-1)])), (a19, .inr (3, [.int 1, .int 0, .int 0, .int 0, .int (-1), .int 0, .int 0, .int 0, .int 0, .int (-1)])), (a20, .inr (3, [.int 1, .int 0, .int 0, .int 0, .int (-1), .int 0, .int 0, .int 0, .int 0, .int (-1)])), (a21, .inr (3, [.int 1, .int 0, .int 0, .int 0, .int (-1), .int 0, .int 0, .int 0, .int 0, .int (-1)])), (a22, .inr (3, [.int 1, .int 0, .int 0, .int 0, .int (-1), .int 0, .int 0, .int 0, .int 0, .int (-1)])), (a23, .inr (2, [.ref a28, .ref a30, .int 0])), (a24, .inr (2, [.ref a25, .ref a26, .int 0])), (a25, .inl (cs 6, 16, .inr (.inr (.inr (.inr (rowsF [a27, a31, a33, a35, a37, a39, a41, a43, a45, a47, a49, a51, a53, a55, a57, a59])))))), (a26, .inl (cs 0, 16, .inl (fun _ => 0))), (a27, .inl (cs 0, 14, .inl (fun _ => 0))), (a28, .inl (cs 6, 16, .inr (.inr (.inr (.inr (rowsF [a29, a32, a34, a36, a38, a40, a42, a44, a46, a48, a50, a52, a54, a56, a58, a60])))))), (a29, .inl (cs 0, 14, .inl (fun _ => 0))), (a30, .inl (cs 0, 16, .inl (fun _ => 0))), (a31, .inl (cs 0, 14, .inl (fun _ => 0))), (a32, .inl (cs 0, 14, .inl (fun _ => 0))), (a33, .inl (cs 0, 14, .inl (fun _ => 0))), (a34, .inl (cs 0, 14, .inl (fun _ => 0))), (a35, .inl (cs 0, 14, .inl (fun _ => 0))), (a36, .inl (cs 0, 14, .inl (fun _ => 0))), (a37, .inl (cs 0, 14, .inl (fun _ => 0))), (a38, .inl (cs 0, 14, .inl (fun _ => 0))), (a39, .inl (cs 0, 14, .inl (fun _ => 0))), (a40, .inl (cs 0, 14, .inl (fun _ => 0))), (a41, .inl (cs 0, 14, .inl (fun _ => 0))), (a42, .inl (cs 0, 14, .inl (fun _ => 0))), (a43, .inl (cs 0, 14, .inl (fun _ => 0))), (a44, .inl (cs 0, 14, .inl (fun _ => 0))), (a45, .inl (cs 0, 14, .inl (fun _ => 0))), (a46, .inl (cs 0, 14, .inl (fun _ => 0))), (a47, .inl (cs 0, 14, .inl (fun _ => 0))), (a48, .inl (cs 0, 14, .inl (fun _ => 0))), (a49, .inl (cs 0, 14, .inl (fun _ => 0))), (a50, .inl (cs 0, 14, .inl (fun _ => 0))), (a51, .inl (cs 0, 14, .inl (fun _ => 0))), (a52, .inl (cs 0, 14, .inl (fun _ => 0))), (a53, .inl (cs 0, 14, .inl (fun _ => 0))), (a54, .inl (cs 0, 14, .inl (fun _ => 0))), (a55, .inl (cs 0, 14, .inl (fun _ => 0))), (a56, .inl (cs 0, 14, .inl (fun _ => 0))), (a57, .inl (cs 0, 14, .inl (fun _ => 0))), (a58, .inl (cs 0, 14, .inl (fun _ => 0))), (a59, .inl (cs 0, 14, .inl (fun _ => 0))), (a60, .inl (cs 0, 14, .inl (fun _ => 0))), (a61, .inr (4, [.int 0, .int 0, .int 0, .int 0, .int 0, .int 3, .int (-1), .int 0])), (a62, .inr (6, [.int 1, .int 1, .int 50, .null, .ref a81, .ref a64, .ref a65, .ref a63])), (a63, .inl (cs 0, 64, .inl (fun _ => 0))), (a64, .inl (cs 0, 8, .inl (fun _ => 0))), (a65, .inl (cs 0, 8, .inl (fun _ => 0))), (a66, .inl (cs 3, 1, .inr (.inl (fun _ => 0))))] (fun u => [(a66, .inl (cs 3, 1, .inr (.inl (vp_updL (fun _ => 0) 0 1)))), (a0, .inr (8, [.ref a67, .ref a1, .ref a68, .ref a5, .int 1, .int 1, .int (-1)])), (a5, .inl (cs 5, 8, .inr (.inr (.inr (.inr (va_up (va_up (va_up (va_up (va_up (va_up (va_up (va_up (fun _ => none) 0 (some a71)) 1 (some a6)) 2 (some a72)) 3 (some a73)) 4 (some a74)) 5 (some a75)) 6 (some a76)) 7 (some a77))))))), (a6, .inr (7, [.ref a62, .ref a7, .ref a23, .ref a61, .ref a79, .ref a80, .long 0, .int 0, .int 0, .int 0, .int 0, .int 0, .int 0, .int 0, .int 0, .int 0])), (a7, .inl (cs 4, 8, .inr (.inr (.inr (.inr (va_up (va_up (va_up (va_up (va_up (va_up (va_up (va_up (fun _ => none) 0 (some a8)) 1 (some a9)) 2 (some a11)) 3 (some a13)) 4 (some a15)) 5 (some a17)) 6 (some a19)) 7 (some a21))))))), (a8, .inr (3, [.int 1, .int 0, .int 0, .int 0, .int (-1), .int 0, .int 0, .int 0, .int 0, .int (-1)])), (a9, .inr (3, [.int 1, .int 0, .int 0, .int 0, .int (-1), .int 0, .int 0, .int 0, .int 0, .int (-1)])), (a10, .inr (3, [.int 1, .int 0, .int 0, .int 0, .int (-1), .int 0, .int 0, .int 0, .int 0, .int (-1)])), (a11, .inr (3, [.int 1, .int 0, .int 0, .int 0, .int (-1), .int 0, .int 0, .int 0, .int 0, .int (-1)])), (a12, .inr (3, [.int 1, .int 0, .int 0, .int 0, .int (-1), .int 0, .int 0, .int 0, .int 0, .int (-1)])), (a13, .inr (3, [.int 1, .int 0, .int 0, .int 0, .int (-1), .int 0, .int 0, .int 0, .int 0, .int (-1)])), (a14, .inr (3, [.int 1, .int 0, .int 0, .int 0, .int (-1), .int 0, .int 0, .int 0, .int 0, .int (-1)])), (a15, .inr (3, [.int 1, .int 0, .int 0, .int 0, .int (-1), .int 0, .int 0, .int 0, .int 0, .int (-1)])), (a16, .inr (3, [.int 1, .int 0, .int 0, .int 0, .int (-1), .int 0, .int 0, .int 0, .int 0, .int (-1)])), (a17, .inr (3, [.int 1, .int 0, .int 0, .int 0, .int (-1), .int 0, .int 0, .int 0, .int 0, .int (-1)])), (a18, .inr (3, [.int 1, .int 0, .int 0, .int 0, .int (-1), .int 0, .int 0, .int 0, .int 0, .int (-1)])), (a19, .inr (3, [.int 1, .int 0, .int 0, .int 0, .int (-1), .int 0, .int 0, .int 0, .int 0, .int (-1)])), (a20, .inr (3, [.int 1, .int 0, .int 0, .int 0, .int (-1), .int 0, .int 0, .int 0, .int 0, .int (-1)])), (a21, .inr (3, [.int 1, .int 0, .int 0, .int 0, .int (-1), .int 0, .int 0, .int 0, .int 0, .int (-1)])), (a22, .inr (3, [.int 1, .int 0, .int 0, .int 0, .int (-1), .int 0, .int 0, .int 0, .int 0, .int (-1)])), (a23, .inr (2, [.ref a28, .ref a30, .int 0])), (a24, .inr (2, [.ref a25, .ref a26, .int 0])), (a25, .inl (cs 6, 16, .inr (.inr (.inr (.inr (rowsF [a27, a31, a33, a35, a37, a39, a41, a43, a45, a47, a49, a51, a53, a55, a57, a59])))))), (a26, .inl (cs 0, 16, .inl (fun _ => 0))), (a27, .inl (cs 0, 14, .inl (fun _ => 0))), (a28, .inl (cs 6, 16, .inr (.inr (.inr (.inr (rowsF [a29, a32, a34, a36, a38, a40, a42, a44, a46, a48, a50, a52, a54, a56, a58, a60])))))), (a29, .inl (cs 0, 14, .inl (fun _ => 0))), (a30, .inl (cs 0, 16, .inl (fun _ => 0))), (a31, .inl (cs 0, 14, .inl (fun _ => 0))), (a32, .inl (cs 0, 14, .inl (fun _ => 0))), (a33, .inl (cs 0, 14, .inl (fun _ => 0))), (a34, .inl (cs 0, 14, .inl (fun _ => 0))), (a35, .inl (cs 0, 14, .inl (fun _ => 0))), (a36, .inl (cs 0, 14, .inl (fun _ => 0))), (a37, .inl (cs 0, 14, .inl (fun _ => 0))), (a38, .inl (cs 0, 14, .inl (fun _ => 0))), (a39, .inl (cs 0, 14, .inl (fun _ => 0))), (a40, .inl (cs 0, 14, .inl (fun _ => 0))), (a41, .inl (cs 0, 14, .inl (fun _ => 0))), (a42, .inl (cs 0, 14, .inl (fun _ => 0))), (a43, .inl (cs 0, 14, .inl (fun _ => 0))), (a44, .inl (cs 0, 14, .inl (fun _ => 0))), (a45, .inl (cs 0, 14, .inl (fun _ => 0))), (a46, .inl (cs 0, 14, .inl (fun _ => 0))), (a47, .inl (cs 0, 14, .inl (fun _ => 0))), (a48, .inl (cs 0, 14, .inl (fun _ => 0))), (a49, .inl (cs 0, 14, .inl (fun _ => 0))), (a50, .inl (cs 0, 14, .inl (fun _ => 0))), (a51, .inl (cs 0, 14, .inl (fun _ => 0))), (a52, .inl (cs 0, 14, .inl (fun _ => 0))), (a53, .inl (cs 0, 14, .inl (fun _ => 0))), (a54, .inl (cs 0, 14, .inl (fun _ => 0))), (a55, .inl (cs 0, 14, .inl (fun _ => 0))), (a56, .inl (cs 0, 14, .inl (fun _ => 0))), (a57, .inl (cs 0, 14, .inl (fun _ => 0))), (a58, .inl (cs 0, 14, .inl (fun _ => 0))), (a59, .inl (cs 0, 14, .inl (fun _ => 0))), (a60, .inl (cs 0, 14, .inl (fun _ => 0))), (a61, .inr (4, [.int 0, .int 0, .int 0, .int 0, .int 0, .int 3, .int (-1), .int 0])), (a63, .inl (cs 0, 64, .inl (fun _ => 0))), (a64, .inl (cs 0, 8, .inl (fun _ => 0))), (a65, .inl (cs 0, 8, .inl (fun _ => 0))), (a2, .inl (cs 4, 8, .inr (.inr (.inr (.inr (va_up (va_up (va_up (va_up (va_up (va_up (va_up (va_up (fun _ => none) 0 (some a3)) 1 (some a10)) 2 (some a12)) 3 (some a14)) 4 (some a16)) 5 (some a18)) 6 (some a20)) 7 (some a22))))))), (a3, .inr (3, [.int 1, .int 0, .int 0, .int 2, .int 0, .int x0, .int 1, .int 0, .int 0, .int (-1)])), (a1, .inr (7, [.ref a62, .ref a2, .ref a24, .ref a4, .ref a69, .ref a70, .long 0, .int 0, .int 0, .int 0, .int 0, .int 1, .int 1, .int 0, .int 0, .int 0])), (a62, .inr (6, [.int 1, .int 1, .int 50, .null, .ref a81, .ref a64, .ref a65, .ref a63])), (a4, .inr (4, [.int x0, .int 1, .int 50, .int 0, .int 1, .int 1, .int (-1), .int 0]))]) (0) := by
  refine KH.of cL_propose 4 (some .int) (by decide) rfl (Nat.le_of_ble_eq_true rfl) ?_
  intro p e s m below meth c A ls hx hb hr hml hown hts hlocks htab hP hN hD hA hS hl hZ
  have hown : s.vm.findClass RL = some m.cls := hown
  have hl : lv_has ls 4 [(0, .ref a0), (1, .int x0), (2, .ref a66)] := hl
  refine lv_aload_n hx hb dL_propose_0 rfl (lv_at hl 2 rfl) ?_
  refine lv_iconst (v := 0) hx hb dL_propose_1 (by decide) ?_
  refine lv_aload_n hx hb dL_propose_2 rfl (lv_at hl 0 rfl) ?_
  refine lv_iload_n hx hb dL_propose_3 rfl (lv_at hl 1 rfl) ?_
  refine cv_i (As := [.int x0]) (rest := [.int 0, .ref a66]) (b := a0) (wr := [(a66, .inl (cs 3, 1, .inr (.inl (fun _ => 0))))]) ⟨hx, hb, hml, hown, hts⟩ (fun sz => k456_X8_propose l D cs sz a0 a1 a2 a3 a4 a5 a6 a7 a8 a9 a10 a11 a12 a13 a14 a15 a16 a17 a18 a19 a20 a21 a22 a23 a24 a25 a26 a27 a28 a29 a30 a31 a32 a33 a34 a35 a36 a37 a38 a39 a40 a41 a42 a43 a44 a45 a46 a47 a48 a49 a50 a51 a52 a53 a54 a55 a56 a57 a58 a59 a60 a61 a62 a63 a64 a65 a67 a68 a69 a70 a71 a72 a73 a74 a75 a76 a77 a78 a79 a80 a81 (x0) hf0 hf1) (cwV 1 hts gL_propose_X8_propose rfl rfl rfl hdX8_propose_v ⟨Nat.le_of_ble_eq_true rfl, Nat.le_of_ble_eq_true rfl⟩) hN hP hD hS hA [0, 1, 2, 3, 4, 5, 6, 7, 8, 9, 10, 11, 12, 13, 14, 15, 16, 17, 18, 19, 20, 21, 22, 23, 24, 25, 26, 27, 28, 29, 30, 31, 32, 33, 34, 35, 36, 37, 38, 39, 40, 41, 42, 43, 44, 45, 46, 47, 48, 49, 50, 51, 52, 53, 54, 55, 56, 57, 58, 59, 60, 61, 62, 63, 64, 65] [66] rfl rfl rfl rfl (by decide) (ci := 8) (q0 := 0) rfl rfl rfl rfl hl.1 (Nat.le_of_ble_eq_true rfl) dL_propose_4 (Nat.le_of_ble_eq_true rfl) (Nat.le_of_ble_eq_true rfl) (fun u0 H locs hP hD hS => ?_)
  have hP : va_P D vwCl [(a66, .inl (cs 3, 1, .inr (.inl (fun _ => 0)))), (a0, .inr (8, [.ref a67, .ref a1, .ref a68, .ref a5, .int 1, .int 1, .int (-1)])), (a5, .inl (cs 5, 8, .inr (.inr (.inr (.inr (va_up (va_up (va_up (va_up (va_up (va_up (va_up (va_up (fun _ => none) 0 (some a71)) 1 (some a6)) 2 (some a72)) 3 (some a73)) 4 (some a74)) 5 (some a75)) 6 (some a76)) 7 (some a77))))))), (a6, .inr (7, [.ref a62, .ref a7, .ref a23, .ref a61, .ref a79, .ref a80, .long 0, .int 0, .int 0, .int 0, .int 0, .int 0, .int 0, .int 0, .int 0, .int 0])), (a7, .inl (cs 4, 8, .inr (.inr (.inr (.inr (va_up (va_up (va_up (va_up (va_up (va_up (va_up (va_up (fun _ => none) 0 (some a8)) 1 (some a9)) 2 (some a11)) 3 (some a13)) 4 (some a15)) 5 (some a17)) 6 (some a19)) 7 (some a21))))))), (a8, .inr (3, [.int 1, .int 0, .int 0, .int 0, .int (-1), .int 0, .int 0, .int 0, .int 0, .int (-1)])), (a9, .inr (3, [.int 1, .int 0, .int 0, .int 0, .int (-1), .int 0, .int 0, .int 0, .int 0, .int (-1)])), (a10, .inr (3, [.int 1, .int 0, .int 0, .int 0, .int (-1), .int 0, .int 0, .int 0, .int 0, .int (-1)])), (a11, .inr (3, [.int 1, .int 0, .int 0, .int 0, .int (-1), .int 0, .int 0, .int 0, .int 0, .int (-1)])), (a12, .inr (3, [.int 1, .int 0, .int 0, .int 0, .int (-1), .int 0, .int 0, .int 0, .int 0, .int (-1)])), (a13, .inr (3, [.int 1, .int 0, .int 0, .int 0, .int (-1), .int 0, .int 0, .int 0, .int 0, .int (-1)])), (a14, .inr (3, [.int 1, .int 0, .int 0, .int 0, .int (-1), .int 0, .int 0, .int 0, .int 0, .int (-1)])), (a15, .inr (3, [.int 1, .int 0, .int 0, .int 0, .int (-1), .int 0, .int 0, .int 0, .int 0, .int (-1)])), (a16, .inr (3, [.int 1, .int 0, .int 0, .int 0, .int (-1), .int 0, .int 0, .int 0, .int 0, .int (-1)])), (a17, .inr (3, [.int 1, .int 0, .int 0, .int 0, .int (-1), .int 0, .int 0, .int 0, .int 0, .int (-1)])), (a18, .inr (3, [.int 1, .int 0, .int 0, .int 0, .int (-1), .int 0, .int 0, .int 0, .int 0, .int (-1)])), (a19, .inr (3, [.int 1, .int 0, .int 0, .int 0, .int (-1), .int 0, .int 0, .int 0, .int 0, .int (-1)])), (a20, .inr (3, [.int 1, .int 0, .int 0, .int 0, .int (-1), .int 0, .int 0, .int 0, .int 0, .int (-1)])), (a21, .inr (3, [.int 1, .int 0, .int 0, .int 0, .int (-1), .int 0, .int 0, .int 0, .int 0, .int (-1)])), (a22, .inr (3, [.int 1, .int 0, .int 0, .int 0, .int (-1), .int 0, .int 0, .int 0, .int 0, .int (-1)])), (a23, .inr (2, [.ref a28, .ref a30, .int 0])), (a24, .inr (2, [.ref a25, .ref a26, .int 0])), (a25, .inl (cs 6, 16, .inr (.inr (.inr (.inr (rowsF [a27, a31, a33, a35, a37, a39, a41, a43, a45, a47, a49, a51, a53, a55, a57, a59])))))), (a26, .inl (cs 0, 16, .inl (fun _ => 0))), (a27, .inl (cs 0, 14, .inl (fun _ => 0))), (a28, .inl (cs 6, 16, .inr (.inr (.inr (.inr (rowsF [a29, a32, a34, a36, a38, a40, a42, a44, a46, a48, a50, a52, a54, a56, a58, a60])))))), (a29, .inl (cs 0, 14, .inl (fun _ => 0))), (a30, .inl (cs 0, 16, .inl (fun _ => 0))), (a31, .inl (cs 0, 14, .inl (fun _ => 0))), (a32, .inl (cs 0, 14, .inl (fun _ => 0))), (a33, .inl (cs 0, 14, .inl (fun _ => 0))), (a34, .inl (cs 0, 14, .inl (fun _ => 0))), (a35, .inl (cs 0, 14, .inl (fun _ => 0))), (a36, .inl (cs 0, 14, .inl (fun _ => 0))), (a37, .inl (cs 0, 14, .inl (fun _ => 0))), (a38, .inl (cs 0, 14, .inl (fun _ => 0))), (a39, .inl (cs 0, 14, .inl (fun _ => 0))), (a40, .inl (cs 0, 14, .inl (fun _ => 0))), (a41, .inl (cs 0, 14, .inl (fun _ => 0))), (a42, .inl (cs 0, 14, .inl (fun _ => 0))), (a43, .inl (cs 0, 14, .inl (fun _ => 0))), (a44, .inl (cs 0, 14, .inl (fun _ => 0))), (a45, .inl (cs 0, 14, .inl (fun _ => 0))), (a46, .inl (cs 0, 14, .inl (fun _ => 0))), (a47, .inl (cs 0, 14, .inl (fun _ => 0))), (a48, .inl (cs 0, 14, .inl (fun _ => 0))), (a49, .inl (cs 0, 14, .inl (fun _ => 0))), (a50, .inl (cs 0, 14, .inl (fun _ => 0))), (a51, .inl (cs 0, 14, .inl (fun _ => 0))), (a52, .inl (cs 0, 14, .inl (fun _ => 0))), (a53, .inl (cs 0, 14, .inl (fun _ => 0))), (a54, .inl (cs 0, 14, .inl (fun _ => 0))), (a55, .inl (cs 0, 14, .inl (fun _ => 0))), (a56, .inl (cs 0, 14, .inl (fun _ => 0))), (a57, .inl (cs 0, 14, .inl (fun _ => 0))), (a58, .inl (cs 0, 14, .inl (fun _ => 0))), (a59, .inl (cs 0, 14, .inl (fun _ => 0))), (a60, .inl (cs 0, 14, .inl (fun _ => 0))), (a61, .inr (4, [.int 0, .int 0, .int 0, .int 0, .int 0, .int 3, .int (-1), .int 0])), (a63, .inl (cs 0, 64, .inl (fun _ => 0))), (a64, .inl (cs 0, 8, .inl (fun _ => 0))), (a65, .inl (cs 0, 8, .inl (fun _ => 0))), (a2, .inl (cs 4, 8, .inr (.inr (.inr (.inr (va_up (va_up (va_up (va_up (va_up (va_up (va_up (va_up (fun _ => none) 0 (some a3)) 1 (some a10)) 2 (some a12)) 3 (some a14)) 4 (some a16)) 5 (some a18)) 6 (some a20)) 7 (some a22))))))), (a3, .inr (3, [.int 1, .int 0, .int 0, .int 2, .int 0, .int x0, .int 1, .int 0, .int 0, .int (-1)])), (a1, .inr (7, [.ref a62, .ref a2, .ref a24, .ref a4, .ref a69, .ref a70, .long 0, .int 0, .int 0, .int 0, .int 0, .int 1, .int 1, .int 0, .int 0, .int 0])), (a62, .inr (6, [.int 1, .int 1, .int 50, .null, .ref a81, .ref a64, .ref a65, .ref a63])), (a4, .inr (4, [.int x0, .int 1, .int 50, .int 0, .int 1, .int 1, .int (-1), .int 0]))] H := hP
  have hD : va_D A [(a66, .inl (cs 3, 1, .inr (.inl (fun _ => 0)))), (a0, .inr (8, [.ref a67, .ref a1, .ref a68, .ref a5, .int 1, .int 1, .int (-1)])), (a5, .inl (cs 5, 8, .inr (.inr (.inr (.inr (va_up (va_up (va_up (va_up (va_up (va_up (va_up (va_up (fun _ => none) 0 (some a71)) 1 (some a6)) 2 (some a72)) 3 (some a73)) 4 (some a74)) 5 (some a75)) 6 (some a76)) 7 (some a77))))))), (a6, .inr (7, [.ref a62, .ref a7, .ref a23, .ref a61, .ref a79, .ref a80, .long 0, .int 0, .int 0, .int 0, .int 0, .int 0, .int 0, .int 0, .int 0, .int 0])), (a7, .inl (cs 4, 8, .inr (.inr (.inr (.inr (va_up (va_up (va_up (va_up (va_up (va_up (va_up (va_up (fun _ => none) 0 (some a8)) 1 (some a9)) 2 (some a11)) 3 (some a13)) 4 (some a15)) 5 (some a17)) 6 (some a19)) 7 (some a21))))))), (a8, .inr (3, [.int 1, .int 0, .int 0, .int 0, .int (-1), .int 0, .int 0, .int 0, .int 0, .int (-1)])), (a9, .inr (3, [.int 1, .int 0, .int 0, .int 0, .int (-1), .int 0, .int 0, .int 0, .int 0, .int (-1)])), (a10, .inr (3, [.int 1, .int 0, .int 0, .int 0, .int (-1), .int 0, .int 0, .int 0, .int 0, .int (-1)])), (a11, .inr (3, [.int 1, .int 0, .int 0, .int 0, .int (-1), .int 0, .int 0, .int 0, .int 0, .int (-1)])), (a12, .inr (3, [.int 1, .int 0, .int 0, .int 0, .int (-1), .int 0, .int 0, .int 0, .int 0, .int (-1)])), (a13, .inr (3, [.int 1, .int 0, .int 0, .int 0, .int (-1), .int 0, .int 0, .int 0, .int 0, .int (-1)])), (a14, .inr (3, [.int 1, .int 0, .int 0, .int 0, .int (-1), .int 0, .int 0, .int 0, .int 0, .int (-1)])), (a15, .inr (3, [.int 1, .int 0, .int 0, .int 0, .int (-1), .int 0, .int 0, .int 0, .int 0, .int (-1)])), (a16, .inr (3, [.int 1, .int 0, .int 0, .int 0, .int (-1), .int 0, .int 0, .int 0, .int 0, .int (-1)])), (a17, .inr (3, [.int 1, .int 0, .int 0, .int 0, .int (-1), .int 0, .int 0, .int 0, .int 0, .int (-1)])), (a18, .inr (3, [.int 1, .int 0, .int 0, .int 0, .int (-1), .int 0, .int 0, .int 0, .int 0, .int (-1)])), (a19, .inr (3, [.int 1, .int 0, .int 0, .int 0, .int (-1), .int 0, .int 0, .int 0, .int 0, .int (-1)])), (a20, .inr (3, [.int 1, .int 0, .int 0, .int 0, .int (-1), .int 0, .int 0, .int 0, .int 0, .int (-1)])), (a21, .inr (3, [.int 1, .int 0, .int 0, .int 0, .int (-1), .int 0, .int 0, .int 0, .int 0, .int (-1)])), (a22, .inr (3, [.int 1, .int 0, .int 0, .int 0, .int (-1), .int 0, .int 0, .int 0, .int 0, .int (-1)])), (a23, .inr (2, [.ref a28, .ref a30, .int 0])), (a24, .inr (2, [.ref a25, .ref a26, .int 0])), (a25, .inl (cs 6, 16, .inr (.inr (.inr (.inr (rowsF [a27, a31, a33, a35, a37, a39, a41, a43, a45, a47, a49, a51, a53, a55, a57, a59])))))), (a26, .inl (cs 0, 16, .inl (fun _ => 0))), (a27, .inl (cs 0, 14, .inl (fun _ => 0))), (a28, .inl (cs 6, 16, .inr (.inr (.inr (.inr (rowsF [a29, a32, a34, a36, a38, a40, a42, a44, a46, a48, a50, a52, a54, a56, a58, a60])))))), (a29, .inl (cs 0, 14, .inl (fun _ => 0))), (a30, .inl (cs 0, 16, .inl (fun _ => 0))), (a31, .inl (cs 0, 14, .inl (fun _ => 0))), (a32, .inl (cs 0, 14, .inl (fun _ => 0))), (a33, .inl (cs 0, 14, .inl (fun _ => 0))), (a34, .inl (cs 0, 14, .inl (fun _ => 0))), (a35, .inl (cs 0, 14, .inl (fun _ => 0))), (a36, .inl (cs 0, 14, .inl (fun _ => 0))), (a37, .inl (cs 0, 14, .inl (fun _ => 0))), (a38, .inl (cs 0, 14, .inl (fun _ => 0))), (a39, .inl (cs 0, 14, .inl (fun _ => 0))), (a40, .inl (cs 0, 14, .inl (fun _ => 0))), (a41, .inl (cs 0, 14, .inl (fun _ => 0))), (a42, .inl (cs 0, 14, .inl (fun _ => 0))), (a43, .inl (cs 0, 14, .inl (fun _ => 0))), (a44, .inl (cs 0, 14, .inl (fun _ => 0))), (a45, .inl (cs 0, 14, .inl (fun _ => 0))), (a46, .inl (cs 0, 14, .inl (fun _ => 0))), (a47, .inl (cs 0, 14, .inl (fun _ => 0))), (a48, .inl (cs 0, 14, .inl (fun _ => 0))), (a49, .inl (cs 0, 14, .inl (fun _ => 0))), (a50, .inl (cs 0, 14, .inl (fun _ => 0))), (a51, .inl (cs 0, 14, .inl (fun _ => 0))), (a52, .inl (cs 0, 14, .inl (fun _ => 0))), (a53, .inl (cs 0, 14, .inl (fun _ => 0))), (a54, .inl (cs 0, 14, .inl (fun _ => 0))), (a55, .inl (cs 0, 14, .inl (fun _ => 0))), (a56, .inl (cs 0, 14, .inl (fun _ => 0))), (a57, .inl (cs 0, 14, .inl (fun _ => 0))), (a58, .inl (cs 0, 14, .inl (fun _ => 0))), (a59, .inl (cs 0, 14, .inl (fun _ => 0))), (a60, .inl (cs 0, 14, .inl (fun _ => 0))), (a61, .inr (4, [.int 0, .int 0, .int 0, .int 0, .int 0, .int 3, .int (-1), .int 0])), (a63, .inl (cs 0, 64, .inl (fun _ => 0))), (a64, .inl (cs 0, 8, .inl (fun _ => 0))), (a65, .inl (cs 0, 8, .inl (fun _ => 0))), (a2, .inl (cs 4, 8, .inr (.inr (.inr (.inr (va_up (va_up (va_up (va_up (va_up (va_up (va_up (va_up (fun _ => none) 0 (some a3)) 1 (some a10)) 2 (some a12)) 3 (some a14)) 4 (some a16)) 5 (some a18)) 6 (some a20)) 7 (some a22))))))), (a3, .inr (3, [.int 1, .int 0, .int 0, .int 2, .int 0, .int x0, .int 1, .int 0, .int 0, .int (-1)])), (a1, .inr (7, [.ref a62, .ref a2, .ref a24, .ref a4, .ref a69, .ref a70, .long 0, .int 0, .int 0, .int 0, .int 0, .int 1, .int 1, .int 0, .int 0, .int 0])), (a62, .inr (6, [.int 1, .int 1, .int 50, .null, .ref a81, .ref a64, .ref a65, .ref a63])), (a4, .inr (4, [.int x0, .int 1, .int 50, .int 0, .int 1, .int 1, .int (-1), .int 0]))] := hD
  refine W.widen (k := 0) (n := 0) (Nat.le_of_ble_eq_true rfl) (Nat.le_of_ble_eq_true rfl) ?_
  refine lv_i2l (v := 1) hx hb dL_propose_7 (by decide) ?_
  refine st_l (g := (vp_updL (fun _ => 0) 0 1)) hx hb hN hP hD hS 0 rfl (vin (by decide +kernel)) rfl dL_propose_8 (fun H locs hP hD hS => ?_)
  have hP : va_P D vwCl [(a66, .inl (cs 3, 1, .inr (.inl (vp_updL (fun _ => 0) 0 1)))), (a0, .inr (8, [.ref a67, .ref a1, .ref a68, .ref a5, .int 1, .int 1, .int (-1)])), (a5, .inl (cs 5, 8, .inr (.inr (.inr (.inr (va_up (va_up (va_up (va_up (va_up (va_up (va_up (va_up (fun _ => none) 0 (some a71)) 1 (some a6)) 2 (some a72)) 3 (some a73)) 4 (some a74)) 5 (some a75)) 6 (some a76)) 7 (some a77))))))), (a6, .inr (7, [.ref a62, .ref a7, .ref a23, .ref a61, .ref a79, .ref a80, .long 0, .int 0, .int 0, .int 0, .int 0, .int 0, .int 0, .int 0, .int 0, .int 0])), (a7, .inl (cs 4, 8, .inr (.inr (.inr (.inr (va_up (va_up (va_up (va_up (va_up (va_up (va_up (va_up (fun _ => none) 0 (some a8)) 1 (some a9)) 2 (some a11)) 3 (some a13)) 4 (some a15)) 5 (some a17)) 6 (some a19)) 7 (some a21))))))), (a8, .inr (3, [.int 1, .int 0, .int 0, .int 0, .int (-1), .int 0, .int 0, .int 0, .int 0, .int (-1)])), (a9, .inr (3, [.int 1, .int 0, .int 0, .int 0, .int (-1), .int 0, .int 0, .int 0, .int 0, .int (-1)])), (a10, .inr (3, [.int 1, .int 0, .int 0, .int 0, .int (-1), .int 0, .int 0, .int 0, .int 0, .int (-1)])), (a11, .inr (3, [.int 1, .int 0, .int 0, .int 0, .int (-1), .int 0, .int 0, .int 0, .int 0, .int (-1)])), (a12, .inr (3, [.int 1, .int 0, .int 0, .int 0, .int (-1), .int 0, .int 0, .int 0, .int 0, .int (-1)])), (a13, .inr (3, [.int 1, .int 0, .int 0, .int 0, .int (-1), .int 0, .int 0, .int 0, .int 0, .int (-1)])), (a14, .inr (3, [.int 1, .int 0, .int 0, .int 0, .int (-1), .int 0, .int 0, .int 0, .int 0, .int (-1)])), (a15, .inr (3, [.int 1, .int 0, .int 0, .int 0, .int (-1), .int 0, .int 0, .int 0, .int 0, .int (-1)])), (a16, .inr (3, [.int 1, .int 0, .int 0, .int 0, .int (-1), .int 0, .int 0, .int 0, .int 0, .int (-1)])), (a17, .inr (3, [.int 1, .int 0, .int 0, .int 0, .int (-1), .int 0, .int 0, .int 0, .int 0, .int (-1)])), (a18, .inr (3, [.int 1, .int 0, .int 0, .int 0, .int (-1), .int 0, .int 0, .int 0, .int 0, .int (-1)])), (a19, .inr (3, [.int 1, .int 0, .int 0, .int 0, .int (-1), .int 0, .int 0, .int 0, .int 0, .int (-1)])), (a20, .inr (3, [.int 1, .int 0, .int 0, .int 0, .int (-1), .int 0, .int 0, .int 0, .int 0, .int (-1)])), (a21, .inr (3, [.int 1, .int 0, .int 0, .int 0, .int (-1), .int 0, .int 0, .int 0, .int 0, .int (-1)])), (a22, .inr (3, [.int 1, .int 0, .int 0, .int 0, .int (-1), .int 0, .int 0, .int 0, .int 0, .int (-1)])), (a23, .inr (2, [.ref a28, .ref a30, .int 0])), (a24, .inr (2, [.ref a25, .ref a26, .int 0])), (a25, .inl (cs 6, 16, .inr (.inr (.inr (.inr (rowsF [a27, a31, a33, a35, a37, a39, a41, a43, a45, a47, a49, a51, a53, a55, a57, a59])))))), (a26, .inl (cs 0, 16, .inl (fun _ => 0))), (a27, .inl (cs 0, 14, .inl (fun _ => 0))), (a28, .inl (cs 6, 16, .inr (.inr (.inr (.inr (rowsF [a29, a32, a34, a36, a38, a40, a42, a44, a46, a48, a50, a52, a54, a56, a58, a60])))))), (a29, .inl (cs 0, 14, .inl (fun _ => 0))), (a30, .inl (cs 0, 16, .inl (fun _ => 0))), (a31, .inl (cs 0, 14, .inl (fun _ => 0))), (a32, .inl (cs 0, 14, .inl (fun _ => 0))), (a33, .inl (cs 0, 14, .inl (fun _ => 0))), (a34, .inl (cs 0, 14, .inl (fun _ => 0))), (a35, .inl (cs 0, 14, .inl (fun _ => 0))), (a36, .inl (cs 0, 14, .inl (fun _ => 0))), (a37, .inl (cs 0, 14, .inl (fun _ => 0))), (a38, .inl (cs 0, 14, .inl (fun _ => 0))), (a39, .inl (cs 0, 14, .inl (fun _ => 0))), (a40, .inl (cs 0, 14, .inl (fun _ => 0))), (a41, .inl (cs 0, 14, .inl (fun _ => 0))), (a42, .inl (cs 0, 14, .inl (fun _ => 0))), (a43, .inl (cs 0, 14, .inl (fun _ => 0))), (a44, .inl (cs 0, 14, .inl (fun _ => 0))), (a45, .inl (cs 0, 14, .inl (fun _ => 0))), (a46, .inl (cs 0, 14, .inl (fun _ => 0))), (a47, .inl (cs 0, 14, .inl (fun _ => 0))), (a48, .inl (cs 0, 14, .inl (fun _ => 0))), (a49, .inl (cs 0, 14, .inl (fun _ => 0))), (a50, .inl (cs 0, 14, .inl (fun _ => 0))), (a51, .inl (cs 0, 14, .inl (fun _ => 0))), (a52, .inl (cs 0, 14, .inl (fun _ => 0))), (a53, .inl (cs 0, 14, .inl (fun _ => 0))), (a54, .inl (cs 0, 14, .inl (fun _ => 0))), (a55, .inl (cs 0, 14, .inl (fun _ => 0))), (a56, .inl (cs 0, 14, .inl (fun _ => 0))), (a57, .inl (cs 0, 14, .inl (fun _ => 0))), (a58, .inl (cs 0, 14, .inl (fun _ => 0))), (a59, .inl (cs 0, 14, .inl (fun _ => 0))), (a60, .inl (cs 0, 14, .inl (fun _ => 0))), (a61, .inr (4, [.int 0, .int 0, .int 0, .int 0, .int 0, .int 3, .int (-1), .int 0])), (a63, .inl (cs 0, 64, .inl (fun _ => 0))), (a64, .inl (cs 0, 8, .inl (fun _ => 0))), (a65, .inl (cs 0, 8, .inl (fun _ => 0))), (a2, .inl (cs 4, 8, .inr (.inr (.inr (.inr (va_up (va_up (va_up (va_up (va_up (va_up (va_up (va_up (fun _ => none) 0 (some a3)) 1 (some a10)) 2 (some a12)) 3 (some a14)) 4 (some a16)) 5 (some a18)) 6 (some a20)) 7 (some a22))))))), (a3, .inr (3, [.int 1, .int 0, .int 0, .int 2, .int 0, .int x0, .int 1, .int 0, .int 0, .int (-1)])), (a1, .inr (7, [.ref a62, .ref a2, .ref a24, .ref a4, .ref a69, .ref a70, .long 0, .int 0, .int 0, .int 0, .int 0, .int 1, .int 1, .int 0, .int 0, .int 0])), (a62, .inr (6, [.int 1, .int 1, .int 50, .null, .ref a81, .ref a64, .ref a65, .ref a63])), (a4, .inr (4, [.int x0, .int 1, .int 50, .int 0, .int 1, .int 1, .int (-1), .int 0]))] H := hP
  have hD : va_D A [(a66, .inl (cs 3, 1, .inr (.inl (vp_updL (fun _ => 0) 0 1)))), (a0, .inr (8, [.ref a67, .ref a1, .ref a68, .ref a5, .int 1, .int 1, .int (-1)])), (a5, .inl (cs 5, 8, .inr (.inr (.inr (.inr (va_up (va_up (va_up (va_up (va_up (va_up (va_up (va_up (fun _ => none) 0 (some a71)) 1 (some a6)) 2 (some a72)) 3 (some a73)) 4 (some a74)) 5 (some a75)) 6 (some a76)) 7 (some a77))))))), (a6, .inr (7, [.ref a62, .ref a7, .ref a23, .ref a61, .ref a79, .ref a80, .long 0, .int 0, .int 0, .int 0, .int 0, .int 0, .int 0, .int 0, .int 0, .int 0])), (a7, .inl (cs 4, 8, .inr (.inr (.inr (.inr (va_up (va_up (va_up (va_up (va_up (va_up (va_up (va_up (fun _ => none) 0 (some a8)) 1 (some a9)) 2 (some a11)) 3 (some a13)) 4 (some a15)) 5 (some a17)) 6 (some a19)) 7 (some a21))))))), (a8, .inr (3, [.int 1, .int 0, .int 0, .int 0, .int (-1), .int 0, .int 0, .int 0, .int 0, .int (-1)])), (a9, .inr (3, [.int 1, .int 0, .int 0, .int 0, .int (-1), .int 0, .int 0, .int 0, .int 0, .int (-1)])), (a10, .inr (3, [.int 1, .int 0, .int 0, .int 0, .int (-1), .int 0, .int 0, .int 0, .int 0, .int (-1)])), (a11, .inr (3, [.int 1, .int 0, .int 0, .int 0, .int (-1), .int 0, .int 0, .int 0, .int 0, .int (-1)])), (a12, .inr (3, [.int 1, .int 0, .int 0, .int 0, .int (-1), .int 0, .int 0, .int 0, .int 0, .int (-1)])), (a13, .inr (3, [.int 1, .int 0, .int 0, .int 0, .int (-1), .int 0, .int 0, .int 0, .int 0, .int (-1)])), (a14, .inr (3, [.int 1, .int 0, .int 0, .int 0, .int (-1), .int 0, .int 0, .int 0, .int 0, .int (-1)])), (a15, .inr (3, [.int 1, .int 0, .int 0, .int 0, .int (-1), .int 0, .int 0, .int 0, .int 0, .int (-1)])), (a16, .inr (3, [.int 1, .int 0, .int 0, .int 0, .int (-1), .int 0, .int 0, .int 0, .int 0, .int (-1)])), (a17, .inr (3, [.int 1, .int 0, .int 0, .int 0, .int (-1), .int 0, .int 0, .int 0, .int 0, .int (-1)])), (a18, .inr (3, [.int 1, .int 0, .int 0, .int 0, .int (-1), .int 0, .int 0, .int 0, .int 0, .int (-1)])), (a19, .inr (3, [.int 1, .int 0, .int 0, .int 0, .int (-1), .int 0, .int 0, .int 0, .int 0, .int (-1)])), (a20, .inr (3, [.int 1, .int 0, .int 0, .int 0, .int (-1), .int 0, .int 0, .int 0, .int 0, .int (-1)])), (a21, .inr (3, [.int 1, .int 0, .int 0, .int 0, .int (-1), .int 0, .int 0, .int 0, .int 0, .int (-1)])), (a22, .inr (3, [.int 1, .int 0, .int 0, .int 0, .int (-1), .int 0, .int 0, .int 0, .int 0, .int (-1)])), (a23, .inr (2, [.ref a28, .ref a30, .int 0])), (a24, .inr (2, [.ref a25, .ref a26, .int 0])), (a25, .inl (cs 6, 16, .inr (.inr (.inr (.inr (rowsF [a27, a31, a33, a35, a37, a39, a41, a43, a45, a47, a49, a51, a53, a55, a57, a59])))))), (a26, .inl (cs 0, 16, .inl (fun _ => 0))), (a27, .inl (cs 0, 14, .inl (fun _ => 0))), (a28, .inl (cs 6, 16, .inr (.inr (.inr (.inr (rowsF [a29, a32, a34, a36, a38, a40, a42, a44, a46, a48, a50, a52, a54, a56, a58, a60])))))), (a29, .inl (cs 0, 14, .inl (fun _ => 0))), (a30, .inl (cs 0, 16, .inl (fun _ => 0))), (a31, .inl (cs 0, 14, .inl (fun _ => 0))), (a32, .inl (cs 0, 14, .inl (fun _ => 0))), (a33, .inl (cs 0, 14, .inl (fun _ => 0))), (a34, .inl (cs 0, 14, .inl (fun _ => 0))), (a35, .inl (cs 0, 14, .inl (fun _ => 0))), (a36, .inl (cs 0, 14, .inl (fun _ => 0))), (a37, .inl (cs 0, 14, .inl (fun _ => 0))), (a38, .inl (cs 0, 14, .inl (fun _ => 0))), (a39, .inl (cs 0, 14, .inl (fun _ => 0))), (a40, .inl (cs 0, 14, .inl (fun _ => 0))), (a41, .inl (cs 0, 14, .inl (fun _ => 0))), (a42, .inl (cs 0, 14, .inl (fun _ => 0))), (a43, .inl (cs 0, 14, .inl (fun _ => 0))), (a44, .inl (cs 0, 14, .inl (fun _ => 0))), (a45, .inl (cs 0, 14, .inl (fun _ => 0))), (a46, .inl (cs 0, 14, .inl (fun _ => 0))), (a47, .inl (cs 0, 14, .inl (fun _ => 0))), (a48, .inl (cs 0, 14, .inl (fun _ => 0))), (a49, .inl (cs 0, 14, .inl (fun _ => 0))), (a50, .inl (cs 0, 14, .inl (fun _ => 0))), (a51, .inl (cs 0, 14, .inl (fun _ => 0))), (a52, .inl (cs 0, 14, .inl (fun _ => 0))), (a53, .inl (cs 0, 14, .inl (fun _ => 0))), (a54, .inl (cs 0, 14, .inl (fun _ => 0))), (a55, .inl (cs 0, 14, .inl (fun _ => 0))), (a56, .inl (cs 0, 14, .inl (fun _ => 0))), (a57, .inl (cs 0, 14, .inl (fun _ => 0))), (a58, .inl (cs 0, 14, .inl (fun _ => 0))), (a59, .inl (cs 0, 14, .inl (fun _ => 0))), (a60, .inl (cs 0, 14, .inl (fun _ => 0))), (a61, .inr (4, [.int 0, .int 0, .int 0, .int 0, .int 0, .int 3, .int (-1), .int 0])), (a63, .inl (cs 0, 64, .inl (fun _ => 0))), (a64, .inl (cs 0, 8, .inl (fun _ => 0))), (a65, .inl (cs 0, 8, .inl (fun _ => 0))), (a2, .inl (cs 4, 8, .inr (.inr (.inr (.inr (va_up (va_up (va_up (va_up (va_up (va_up (va_up (va_up (fun _ => none) 0 (some a3)) 1 (some a10)) 2 (some a12)) 3 (some a14)) 4 (some a16)) 5 (some a18)) 6 (some a20)) 7 (some a22))))))), (a3, .inr (3, [.int 1, .int 0, .int 0, .int 2, .int 0, .int x0, .int 1, .int 0, .int 0, .int (-1)])), (a1, .inr (7, [.ref a62, .ref a2, .ref a24, .ref a4, .ref a69, .ref a70, .long 0, .int 0, .int 0, .int 0, .int 0, .int 1, .int 1, .int 0, .int 0, .int 0])), (a62, .inr (6, [.int 1, .int 1, .int 50, .null, .ref a81, .ref a64, .ref a65, .ref a63])), (a4, .inr (4, [.int x0, .int 1, .int 50, .int 0, .int 1, .int 1, .int (-1), .int 0]))] := hD
  refine lv_goto (tgt := 18) hx hb dL_propose_9 (by decide) ?_
  refine lv_iconst (v := 0) hx hb dL_propose_18 (by decide) ?_
  exact en_i (fun k => ([] : List Nat).getD k 0) hx hb hr hlocks rfl rfl hP hD hS (Nat.le_of_ble_eq_true rfl) (Nat.le_of_ble_eq_true rfl) dL_propose_19
theorem mX9_propose_1 : (.fieldLink RX9 40 "OneBeatModel" "thrown" "I" : Cond) ∈ wsX9_propose := List.mem_of_getElem? (i := 1) (by decide +kernel)
theorem iX9_propose_9 : ∀ w ∈ wsX90, w ∈ wsX9_propose := fun w h => List.mem_of_mem_drop (List.mem_of_mem_take ((show wsX90 = (wsX9_propose.drop 105).take 18 by decide +kernel) ▸ h))
set_option maxHeartbeats 4000000 in
set_option maxRecDepth 100000 in
theorem k458_X9_in (l : Launch) (D : va_G) (cs : Nat → ClassId) (sz : Nat) (x0 : Int32) (hf0 : ¬ x0 < 0) (hf1 : ¬ 99 < x0) : KI l yX9_in wsX9_in 0 0 0 0 D cs sz [.int x0, .int 0, .int 99] [] (fun u => []) (1) := by
  refine KI.of cX9_in 3 (some .boolean) (by decide) rfl (Nat.le_of_ble_eq_true rfl) ?_
  intro p e s m below meth c A ls hx hb hr hml hown hts hlocks hin hP hN hD hA hS hl
  have hown : s.vm.findClass RX9 = some m.cls := hown
  have hl : lv_has ls 3 [(0, .int x0), (1, .int 0), (2, .int 99)] := hl
  refine lv_iload_n hx hb dX9_in_0 rfl (lv_at hl 0 rfl) ?_
  refine lv_iload_n hx hb dX9_in_1 rfl (lv_at hl 1 rfl) ?_
  refine lv_icmp_lt (tgt := 14) hx hb dX9_in_2 (by decide) (fun c9 => absurd c9 hf0) (fun _ => ?_)
  refine lv_iload_n hx hb dX9_in_5 rfl (lv_at hl 0 rfl) ?_
  refine lv_iload_n hx hb dX9_in_6 rfl (lv_at hl 2 rfl) ?_
  refine lv_icmp_gt (tgt := 14) hx hb dX9_in_7 (by decide) (fun c9 => absurd c9 hf1) (fun _ => ?_)
  refine lv_iconst (v := 1) hx hb dX9_in_10 (by decide) ?_
  refine lv_goto (tgt := 15) hx hb dX9_in_11 (by decide) ?_
  exact en_i (fun k => ([] : List Nat).getD k 0) hx hb hr hlocks rfl rfl hP hD hS (Nat.le_of_ble_eq_true rfl) (Nat.le_of_ble_eq_true rfl) dX9_in_15
theorem mX9_remember_1 : (.fieldLink RX9 302 "OneBeatModel" "undoDepth" "I" : Cond) ∈ wsX9_remember := List.mem_of_getElem? (i := 1) (by decide +kernel)
theorem iX9_remember_9 : ∀ w ∈ wsX90, w ∈ wsX9_remember := fun w h => List.mem_of_mem_drop (List.mem_of_mem_take ((show wsX90 = (wsX9_remember.drop 8).take 18 by decide +kernel) ▸ h))
theorem mX9_remember_3 : (.fieldLink RX9 18 "OneBeatModel" "data" "[I" : Cond) ∈ wsX9_remember := List.mem_of_getElem? (i := 3) (by decide +kernel)
theorem mX9_remember_2 : (.fieldLink RX9 29 "OneBeatModel" "history" "[[I" : Cond) ∈ wsX9_remember := List.mem_of_getElem? (i := 2) (by decide +kernel)
set_option maxHeartbeats 4000000 in
set_option maxRecDepth 100000 in
theorem k459_X9_remember (l : Launch) (D : va_G) (cs : Nat → ClassId) (sz : Nat) (a0 a1 a2 a3 a4 a5 a6 a7 a8 a9 a10 a11 a12 a13 a14 : Nat) : KV l yX9_remember wsX9_remember 1 23 0 0 D cs sz [.ref a0] [(a0, .inr (9, [.int 0, .ref a4, .int 0, .int 0, .int 0, .int 0, .int 0, .int (-1), .ref a2, .ref a5, .ref a6, .ref a1, .int 0, .int 0, .int 0, .int 0, .int 0, .ref a7])), (a1, .inl (cs 6, 8, .inr (.inr (.inr (.inr (rowsF [a3, a8, a9, a10, a11, a12, a13, a14])))))), (a2, .inl (cs 0, 45783, .inl (layF (fun _ => 0) 1))), (a3, .inl (cs 0, 45783, .inl (fun _ => 0)))] (fun u => [(a0, .inr (9, [.int 0, .ref a4, .int 0, .int 0, .int 0, .int 0, .int 0, .int (-1), .ref a2, .ref a5, .ref a6, .ref a1, .int 1, .int 0, .int 0, .int 0, .int 0, .ref a7])), (a1, .inl (cs 6, 8, .inr (.inr (.inr (.inr (rowsF [a3, a8, a9, a10, a11, a12, a13, a14])))))), (a2, .inl (cs 0, 45783, .inl (layF (fun _ => 0) 1))), (a3, .inl (cs 0, 45783, .inl (cpF 1383 (layF (fun _ => 0) 1) (fun _ => 0))))]) := by
  refine KV.of cX9_remember 2 none (by decide) rfl (Nat.le_of_ble_eq_true rfl) ?_
  intro p e s m below meth c A ls hx hb hr hml hown hts hlocks hin hP hN hD hA hS hl
  have hown : s.vm.findClass RX9 = some m.cls := hown
  have hl : lv_has ls 2 [(0, .ref a0)] := hl
  refine lv_aload_n hx hb dX9_remember_0 rfl (lv_at hl 0 rfl) ?_
  refine va_get (D := D) (ci := 9) (v := .int 0) (C := RX9) (T := TX9) (N := 18) hx hb hts iX9_remember_9 hown hN.1 hP 0 rfl rfl 12 (by decide) (hts _ mX9_remember_1) (fun _ h9 => h9) rfl dX9_remember_1 ?_
  refine lv_bipush (v := 8) hx hb dX9_remember_4 (by decide) ?_
  refine lv_icmp_ne (tgt := 50) hx hb dX9_remember_6 (by decide) (fun _ => ?_) (fun c9 => absurd c9 (by decide))
  refine lv_aload_n hx hb dX9_remember_50 rfl (lv_at hl 0 rfl) ?_
  refine va_get (D := D) (ci := 9) (v := .ref a2) (C := RX9) (T := TX9) (N := 18) hx hb hts iX9_remember_9 hown hN.1 hP 0 rfl rfl 8 (by decide) (hts _ mX9_remember_3) (fun _ h9 => h9) rfl dX9_remember_51 ?_
  refine lv_aload_n hx hb dX9_remember_54 rfl (lv_at hl 0 rfl) ?_
  refine va_get (D := D) (ci := 9) (v := .ref a1) (C := RX9) (T := TX9) (N := 18) hx hb hts iX9_remember_9 hown hN.1 hP 0 rfl rfl 11 (by decide) (hts _ mX9_remember_2) (fun _ h9 => h9) rfl dX9_remember_55 ?_
  refine lv_aload_n hx hb dX9_remember_58 rfl (lv_at hl 0 rfl) ?_
  refine va_get (D := D) (ci := 9) (v := .int 0) (C := RX9) (T := TX9) (N := 18) hx hb hts iX9_remember_9 hown hN.1 hP 0 rfl rfl 12 (by decide) (hts _ mX9_remember_1) (fun _ h9 => h9) rfl dX9_remember_59 ?_
  refine ld_a (v := (.ref a3)) hx hb hN hP 1 rfl (vin (by decide +kernel)) (by first | rfl | decide +kernel) dX9_remember_62 ?_
  refine cs_v (As := [.ref a2, .ref a3]) (rest := []) (wr := [(a0, .inr (9, [.int 0, .ref a4, .int 0, .int 0, .int 0, .int 0, .int 0, .int (-1), .ref a2, .ref a5, .ref a6, .ref a1, .int 0, .int 0, .int 0, .int 0, .int 0, .ref a7])), (a1, .inl (cs 6, 8, .inr (.inr (.inr (.inr (rowsF [a3, a8, a9, a10, a11, a12, a13, a14]))))))]) ⟨hx, hb, hml, hown, hts⟩ (fun sz => k321_X9_copy l D cs sz a2 a3) (va_cwS 2 hts gX9_remember_X9_copy rfl rfl rfl hdX9_copy_o ⟨Nat.le_of_ble_eq_true rfl, Nat.le_of_ble_eq_true rfl⟩) hN hP hD hS hA [2, 3] [0, 1] rfl rfl rfl rfl (by decide) rfl rfl hl.1 (Nat.le_of_ble_eq_true rfl) dX9_remember_63 (Nat.le_of_ble_eq_true rfl) (Nat.le_of_ble_eq_true rfl) (fun u0 H locs hP hD hS => ?_)
  have hP : va_P D vwCl [(a0, .inr (9, [.int 0, .ref a4, .int 0, .int 0, .int 0, .int 0, .int 0, .int (-1), .ref a2, .ref a5, .ref a6, .ref a1, .int 0, .int 0, .int 0, .int 0, .int 0, .ref a7])), (a1, .inl (cs 6, 8, .inr (.inr (.inr (.inr (rowsF [a3, a8, a9, a10, a11, a12, a13, a14])))))), (a2, .inl (cs 0, 45783, .inl (layF (fun _ => 0) 1))), (a3, .inl (cs 0, 45783, .inl (cpF 1383 (layF (fun _ => 0) 1) (fun _ => 0))))] H := hP
  have hD : va_D A [(a0, .inr (9, [.int 0, .ref a4, .int 0, .int 0, .int 0, .int 0, .int 0, .int (-1), .ref a2, .ref a5, .ref a6, .ref a1, .int 0, .int 0, .int 0, .int 0, .int 0, .ref a7])), (a1, .inl (cs 6, 8, .inr (.inr (.inr (.inr (rowsF [a3, a8, a9, a10, a11, a12, a13, a14])))))), (a2, .inl (cs 0, 45783, .inl (layF (fun _ => 0) 1))), (a3, .inl (cs 0, 45783, .inl (cpF 1383 (layF (fun _ => 0) 1) (fun _ => 0))))] := hD
  refine W.widen (k := 0) (n := 0) (Nat.le_of_ble_eq_true rfl) (Nat.le_of_ble_eq_true rfl) ?_
  refine lv_aload_n hx hb dX9_remember_66 rfl (lv_at hl 0 rfl) ?_
  refine lv_dup hx hb dX9_remember_67 rfl ?_
  refine va_get (D := D) (ci := 9) (v := .int 0) (C := RX9) (T := TX9) (N := 18) hx hb hts iX9_remember_9 hown hN.1 hP 0 rfl rfl 12 (by decide) (hts _ mX9_remember_1) (fun _ h9 => h9) rfl dX9_remember_68 ?_
  refine lv_iconst (v := 1) hx hb dX9_remember_71 (by decide) ?_
  refine lv_iadd hx hb dX9_remember_72 ?_
  refine tp_i (1) (by decide) ?_
  refine va_put (D := D) (ci := 9) (v := .int 1) (ty := .int) (C := RX9) (T := TX9) (N := 18) hx hb hts iX9_remember_9 tyX9 tyX9_ok nmX9 hown hN.1 hP hD hS 0 rfl rfl 12 (by decide) (hts _ mX9_remember_1) (fun _ h9 => h9) rfl (by decide +kernel) rfl rfl (Nat.le_of_ble_eq_true rfl) dX9_remember_73 (fun H locs hP hD hS => ?_)
  have hP : va_P D vwCl [(a0, .inr (9, [.int 0, .ref a4, .int 0, .int 0, .int 0, .int 0, .int 0, .int (-1), .ref a2, .ref a5, .ref a6, .ref a1, .int 1, .int 0, .int 0, .int 0, .int 0, .ref a7])), (a1, .inl (cs 6, 8, .inr (.inr (.inr (.inr (rowsF [a3, a8, a9, a10, a11, a12, a13, a14])))))), (a2, .inl (cs 0, 45783, .inl (layF (fun _ => 0) 1))), (a3, .inl (cs 0, 45783, .inl (cpF 1383 (layF (fun _ => 0) 1) (fun _ => 0))))] H := hP
  have hD : va_D A [(a0, .inr (9, [.int 0, .ref a4, .int 0, .int 0, .int 0, .int 0, .int 0, .int (-1), .ref a2, .ref a5, .ref a6, .ref a1, .int 1, .int 0, .int 0, .int 0, .int 0, .ref a7])), (a1, .inl (cs 6, 8, .inr (.inr (.inr (.inr (rowsF [a3, a8, a9, a10, a11, a12, a13, a14])))))), (a2, .inl (cs 0, 45783, .inl (layF (fun _ => 0) 1))), (a3, .inl (cs 0, 45783, .inl (cpF 1383 (layF (fun _ => 0) 1) (fun _ => 0))))] := hD
  exact en_v (fun k => ([] : List Nat).getD k 0) hx hb hr hlocks hP hD hS (Nat.le_of_ble_eq_true rfl) (Nat.le_of_ble_eq_true rfl) dX9_remember_76
set_option maxHeartbeats 4000000 in
set_option maxRecDepth 100000 in
theorem k460_X9_longestDelay (l : Launch) (D : va_G) (cs : Nat → ClassId) (sz : Nat) (a0 a1 a2 a3 a4 a5 a6 : Nat) : KI l yX9_longestDelay wsX9_longestDelay 1 21 0 0 D cs sz [.ref a0] [(a0, .inr (9, [.int 0, .ref a2, .int 0, .int 0, .int 0, .int 0, .int 0, .int (-1), .ref a1, .ref a3, .ref a4, .ref a5, .int 1, .int 0, .int 0, .int 0, .int 0, .ref a6])), (a1, .inl (cs 0, 45783, .inl (layF (fun _ => 0) 1)))] (fun u => [(a0, .inr (9, [.int 0, .ref a2, .int 0, .int 0, .int 0, .int 0, .int 0, .int (-1), .ref a1, .ref a3, .ref a4, .ref a5, .int 1, .int 0, .int 0, .int 0, .int 0, .ref a6])), (a1, .inl (cs 0, 45783, .inl (layF (fun _ => 0) 1)))]) (0) := by
  refine KI.of cX9_longestDelay 3 (some .int) (by decide) rfl (Nat.le_of_ble_eq_true rfl) ?_
  intro p e s m below meth c A ls hx hb hr hml hown hts hlocks hin hP hN hD hA hS hl
  have hown : s.vm.findClass RX9 = some m.cls := hown
  have hl : lv_has ls 3 [(0, .ref a0)] := hl
  refine lv_iconst (v := 0) hx hb dX9_longestDelay_0 (by decide) ?_
  refine lv_istore_n (lv' := [(1, .int 0), (0, .ref a0)]) hx hb dX9_longestDelay_1 rfl hl (by decide) rfl (fun ls hl => ?_)
  refine lv_iconst (v := 0) hx hb dX9_longestDelay_2 (by decide) ?_
  refine lv_istore_n (lv' := [(2, .int 0), (1, .int 0), (0, .ref a0)]) hx hb dX9_longestDelay_3 rfl hl (by decide) rfl (fun ls hl => ?_)
  refine lv_iload_n hx hb dX9_longestDelay_4 rfl (lv_at hl 0 rfl) ?_
  refine lv_bipush (v := 64) hx hb dX9_longestDelay_5 (by decide) ?_
  refine lv_icmp_ge (tgt := 30) hx hb dX9_longestDelay_7 (by decide) (fun c9 => absurd c9 (by decide)) (fun _ => ?_)
  refine lv_iload_n hx hb dX9_longestDelay_10 rfl (lv_at hl 1 rfl) ?_
  refine lv_aload_n hx hb dX9_longestDelay_11 rfl (lv_at hl 2 rfl) ?_
  refine va_get (D := D) (ci := 9) (v := .ref a1) (C := RX9) (T := TX9) (N := 18) hx hb hts iX9_longestDelay_9 hown hN.1 hP 0 rfl rfl 8 (by decide) (hts _ mX9_longestDelay_1) (fun _ h9 => h9) rfl dX9_longestDelay_12 ?_
  refine lv_bipush (v := 119) hx hb dX9_longestDelay_15 (by decide) ?_
  refine lv_iload_n hx hb dX9_longestDelay_17 rfl (lv_at hl 0 rfl) ?_
  refine lv_iadd hx hb dX9_longestDelay_18 ?_
  refine tp_i (119) (by decide) ?_
  refine ld_i (v := 0) hx hb hN hP 1 rfl (vin (by decide +kernel)) (by first | rfl | decide +kernel) dX9_longestDelay_19 ?_
  refine cs_i (As := [.int 0, .int 0]) (rest := []) (wr := [(a0, .inr (9, [.int 0, .ref a2, .int 0, .int 0, .int 0, .int 0, .int 0, .int (-1), .ref a1, .ref a3, .ref a4, .ref a5, .int 1, .int 0, .int 0, .int 0, .int 0, .ref a6])), (a1, .inl (cs 0, 45783, .inl (layF (fun _ => 0) 1)))]) ⟨hx, hb, hml, hown, hts⟩ (fun sz => k145_X9_max l D cs sz ) (va_cwS 2 hts gX9_longestDelay_X9_max rfl rfl rfl hdX9_max_o ⟨Nat.le_of_ble_eq_true rfl, Nat.le_of_ble_eq_true rfl⟩) hN hP hD hS hA [] [0, 1] rfl rfl rfl rfl (by decide) rfl rfl hl.1 (Nat.le_of_ble_eq_true rfl) dX9_longestDelay_20 (Nat.le_of_ble_eq_true rfl) (Nat.le_of_ble_eq_true rfl) (fun u0 H locs hP hD hS => ?_)
  have hP : va_P D vwCl [(a0, .inr (9, [.int 0, .ref a2, .int 0, .int 0, .int 0, .int 0, .int 0, .int (-1), .ref a1, .ref a3, .ref a4, .ref a5, .int 1, .int 0, .int 0, .int 0, .int 0, .ref a6])), (a1, .inl (cs 0, 45783, .inl (layF (fun _ => 0) 1)))] H := hP
  have hD : va_D A [(a0, .inr (9, [.int 0, .ref a2, .int 0, .int 0, .int 0, .int 0, .int 0, .int (-1), .ref a1, .ref a3, .ref a4, .ref a5, .int 1, .int 0, .int 0, .int 0, .int 0, .ref a6])), (a1, .inl (cs 0, 45783, .inl (layF (fun _ => 0) 1)))] := hD
  refine W.widen (k := 0) (n := 0) (Nat.le_of_ble_eq_true rfl) (Nat.le_of_ble_eq_true rfl) ?_
  refine lv_istore_n (lv' := [(1, .int 0), (2, .int 0), (0, .ref a0)]) hx hb dX9_longestDelay_23 rfl hl (by decide) rfl (fun ls hl => ?_)
  refine lv_iinc (v := 1) (lv' := [(2, .int 1), (1, .int 0), (0, .ref a0)]) hx hb dX9_longestDelay_24 hl (k := 1) rfl (by decide) (by decide) rfl (fun ls hl => ?_)
  refine lv_goto (tgt := 4) hx hb dX9_longestDelay_27 (by decide) ?_
  refine lv_iload_n hx hb dX9_longestDelay_4 rfl (lv_at hl 0 rfl) ?_
  refine lv_bipush (v := 64) hx hb dX9_longestDelay_5 (by decide) ?_
  refine lv_icmp_ge (tgt := 30) hx hb dX9_longestDelay_7 (by decide) (fun c9 => absurd c9 (by decide)) (fun _ => ?_)
  refine lv_iload_n hx hb dX9_longestDelay_10 rfl (lv_at hl 1 rfl) ?_
  refine lv_aload_n hx hb dX9_longestDelay_11 rfl (lv_at hl 2 rfl) ?_
  refine va_get (D := D) (ci := 9) (v := .ref a1) (C := RX9) (T := TX9) (N := 18) hx hb hts iX9_longestDelay_9 hown hN.1 hP 0 rfl rfl 8 (by decide) (hts _ mX9_longestDelay_1) (fun _ h9 => h9) rfl dX9_longestDelay_12 ?_
  refine lv_bipush (v := 119) hx hb dX9_longestDelay_15 (by decide) ?_
  refine lv_iload_n hx hb dX9_longestDelay_17 rfl (lv_at hl 0 rfl) ?_
  refine lv_iadd hx hb dX9_longestDelay_18 ?_
  refine tp_i (120) (by decide) ?_
  refine ld_i (v := 0) hx hb hN hP 1 rfl (vin (by decide +kernel)) (by first | rfl | decide +kernel) dX9_longestDelay_19 ?_
  refine cs_i (As := [.int 0, .int 0]) (rest := []) (wr := [(a0, .inr (9, [.int 0, .ref a2, .int 0, .int 0, .int 0, .int 0, .int 0, .int (-1), .ref a1, .ref a3, .ref a4, .ref a5, .int 1, .int 0, .int 0, .int 0, .int 0, .ref a6])), (a1, .inl (cs 0, 45783, .inl (layF (fun _ => 0) 1)))]) ⟨hx, hb, hml, hown, hts⟩ (fun sz => k145_X9_max l D cs sz ) (va_cwS 2 hts gX9_longestDelay_X9_max rfl rfl rfl hdX9_max_o ⟨Nat.le_of_ble_eq_true rfl, Nat.le_of_ble_eq_true rfl⟩) hN hP hD hS hA [] [0, 1] rfl rfl rfl rfl (by decide) rfl rfl hl.1 (Nat.le_of_ble_eq_true rfl) dX9_longestDelay_20 (Nat.le_of_ble_eq_true rfl) (Nat.le_of_ble_eq_true rfl) (fun u1 H locs hP hD hS => ?_)
  have hP : va_P D vwCl [(a0, .inr (9, [.int 0, .ref a2, .int 0, .int 0, .int 0, .int 0, .int 0, .int (-1), .ref a1, .ref a3, .ref a4, .ref a5, .int 1, .int 0, .int 0, .int 0, .int 0, .ref a6])), (a1, .inl (cs 0, 45783, .inl (layF (fun _ => 0) 1)))] H := hP
  have hD : va_D A [(a0, .inr (9, [.int 0, .ref a2, .int 0, .int 0, .int 0, .int 0, .int 0, .int (-1), .ref a1, .ref a3, .ref a4, .ref a5, .int 1, .int 0, .int 0, .int 0, .int 0, .ref a6])), (a1, .inl (cs 0, 45783, .inl (layF (fun _ => 0) 1)))] := hD
  refine W.widen (k := 0) (n := 0) (Nat.le_of_ble_eq_true rfl) (Nat.le_of_ble_eq_true rfl) ?_
  refine lv_istore_n (lv' := [(1, .int 0), (2, .int 1), (0, .ref a0)]) hx hb dX9_longestDelay_23 rfl hl (by decide) rfl (fun ls hl => ?_)
  refine lv_iinc (v := 2) (lv' := [(2, .int 2), (1, .int 0), (0, .ref a0)]) hx hb dX9_longestDelay_24 hl (k := 1) rfl (by decide) (by decide) rfl (fun ls hl => ?_)
  refine lv_goto (tgt := 4) hx hb dX9_longestDelay_27 (by decide) ?_
  refine lv_iload_n hx hb dX9_longestDelay_4 rfl (lv_at hl 0 rfl) ?_
  refine lv_bipush (v := 64) hx hb dX9_longestDelay_5 (by decide) ?_
  refine lv_icmp_ge (tgt := 30) hx hb dX9_longestDelay_7 (by decide) (fun c9 => absurd c9 (by decide)) (fun _ => ?_)
  refine lv_iload_n hx hb dX9_longestDelay_10 rfl (lv_at hl 1 rfl) ?_
  refine lv_aload_n hx hb dX9_longestDelay_11 rfl (lv_at hl 2 rfl) ?_
  refine va_get (D := D) (ci := 9) (v := .ref a1) (C := RX9) (T := TX9) (N := 18) hx hb hts iX9_longestDelay_9 hown hN.1 hP 0 rfl rfl 8 (by decide) (hts _ mX9_longestDelay_1) (fun _ h9 => h9) rfl dX9_longestDelay_12 ?_
  refine lv_bipush (v := 119) hx hb dX9_longestDelay_15 (by decide) ?_
  refine lv_iload_n hx hb dX9_longestDelay_17 rfl (lv_at hl 0 rfl) ?_
  refine lv_iadd hx hb dX9_longestDelay_18 ?_
  refine tp_i (121) (by decide) ?_
  refine ld_i (v := 0) hx hb hN hP 1 rfl (vin (by decide +kernel)) (by first | rfl | decide +kernel) dX9_longestDelay_19 ?_
  refine cs_i (As := [.int 0, .int 0]) (rest := []) (wr := [(a0, .inr (9, [.int 0, .ref a2, .int 0, .int 0, .int 0, .int 0, .int 0, .int (-1), .ref a1, .ref a3, .ref a4, .ref a5, .int 1, .int 0, .int 0, .int 0, .int 0, .ref a6])), (a1, .inl (cs 0, 45783, .inl (layF (fun _ => 0) 1)))]) ⟨hx, hb, hml, hown, hts⟩ (fun sz => k145_X9_max l D cs sz ) (va_cwS 2 hts gX9_longestDelay_X9_max rfl rfl rfl hdX9_max_o ⟨Nat.le_of_ble_eq_true rfl, Nat.le_of_ble_eq_true rfl⟩) hN hP hD hS hA [] [0, 1] rfl rfl rfl rfl (by decide) rfl rfl hl.1 (Nat.le_of_ble_eq_true rfl) dX9_longestDelay_20 (Nat.le_of_ble_eq_true rfl) (Nat.le_of_ble_eq_true rfl) (fun u2 H locs hP hD hS => ?_)
  have hP : va_P D vwCl [(a0, .inr (9, [.int 0, .ref a2, .int 0, .int 0, .int 0, .int 0, .int 0, .int (-1), .ref a1, .ref a3, .ref a4, .ref a5, .int 1, .int 0, .int 0, .int 0, .int 0, .ref a6])), (a1, .inl (cs 0, 45783, .inl (layF (fun _ => 0) 1)))] H := hP
  have hD : va_D A [(a0, .inr (9, [.int 0, .ref a2, .int 0, .int 0, .int 0, .int 0, .int 0, .int (-1), .ref a1, .ref a3, .ref a4, .ref a5, .int 1, .int 0, .int 0, .int 0, .int 0, .ref a6])), (a1, .inl (cs 0, 45783, .inl (layF (fun _ => 0) 1)))] := hD
  refine W.widen (k := 0) (n := 0) (Nat.le_of_ble_eq_true rfl) (Nat.le_of_ble_eq_true rfl) ?_
  refine lv_istore_n (lv' := [(1, .int 0), (2, .int 2), (0, .ref a0)]) hx hb dX9_longestDelay_23 rfl hl (by decide) rfl (fun ls hl => ?_)
  refine lv_iinc (v := 3) (lv' := [(2, .int 3), (1, .int 0), (0, .ref a0)]) hx hb dX9_longestDelay_24 hl (k := 1) rfl (by decide) (by decide) rfl (fun ls hl => ?_)
  refine lv_goto (tgt := 4) hx hb dX9_longestDelay_27 (by decide) ?_
  refine lv_iload_n hx hb dX9_longestDelay_4 rfl (lv_at hl 0 rfl) ?_
  refine lv_bipush (v := 64) hx hb dX9_longestDelay_5 (by decide) ?_
  refine lv_icmp_ge (tgt := 30) hx hb dX9_longestDelay_7 (by decide) (fun c9 => absurd c9 (by decide)) (fun _ => ?_)
  refine lv_iload_n hx hb dX9_longestDelay_10 rfl (lv_at hl 1 rfl) ?_
  refine lv_aload_n hx hb dX9_longestDelay_11 rfl (lv_at hl 2 rfl) ?_
  refine va_get (D := D) (ci := 9) (v := .ref a1) (C := RX9) (T := TX9) (N := 18) hx hb hts iX9_longestDelay_9 hown hN.1 hP 0 rfl rfl 8 (by decide) (hts _ mX9_longestDelay_1) (fun _ h9 => h9) rfl dX9_longestDelay_12 ?_
  refine lv_bipush (v := 119) hx hb dX9_longestDelay_15 (by decide) ?_
  refine lv_iload_n hx hb dX9_longestDelay_17 rfl (lv_at hl 0 rfl) ?_
  refine lv_iadd hx hb dX9_longestDelay_18 ?_
  refine tp_i (122) (by decide) ?_
  refine ld_i (v := 0) hx hb hN hP 1 rfl (vin (by decide +kernel)) (by first | rfl | decide +kernel) dX9_longestDelay_19 ?_
  refine cs_i (As := [.int 0, .int 0]) (rest := []) (wr := [(a0, .inr (9, [.int 0, .ref a2, .int 0, .int 0, .int 0, .int 0, .int 0, .int (-1), .ref a1, .ref a3, .ref a4, .ref a5, .int 1, .int 0, .int 0, .int 0, .int 0, .ref a6])), (a1, .inl (cs 0, 45783, .inl (layF (fun _ => 0) 1)))]) ⟨hx, hb, hml, hown, hts⟩ (fun sz => k145_X9_max l D cs sz ) (va_cwS 2 hts gX9_longestDelay_X9_max rfl rfl rfl hdX9_max_o ⟨Nat.le_of_ble_eq_true rfl, Nat.le_of_ble_eq_true rfl⟩) hN hP hD hS hA [] [0, 1] rfl rfl rfl rfl (by decide) rfl rfl hl.1 (Nat.le_of_ble_eq_true rfl) dX9_longestDelay_20 (Nat.le_of_ble_eq_true rfl) (Nat.le_of_ble_eq_true rfl) (fun u3 H locs hP hD hS => ?_)
  have hP : va_P D vwCl [(a0, .inr (9, [.int 0, .ref a2, .int 0, .int 0, .int 0, .int 0, .int 0, .int (-1), .ref a1, .ref a3, .ref a4, .ref a5, .int 1, .int 0, .int 0, .int 0, .int 0, .ref a6])), (a1, .inl (cs 0, 45783, .inl (layF (fun _ => 0) 1)))] H := hP
  have hD : va_D A [(a0, .inr (9, [.int 0, .ref a2, .int 0, .int 0, .int 0, .int 0, .int 0, .int (-1), .ref a1, .ref a3, .ref a4, .ref a5, .int 1, .int 0, .int 0, .int 0, .int 0, .ref a6])), (a1, .inl (cs 0, 45783, .inl (layF (fun _ => 0) 1)))] := hD
  refine W.widen (k := 0) (n := 0) (Nat.le_of_ble_eq_true rfl) (Nat.le_of_ble_eq_true rfl) ?_
  refine lv_istore_n (lv' := [(1, .int 0), (2, .int 3), (0, .ref a0)]) hx hb dX9_longestDelay_23 rfl hl (by decide) rfl (fun ls hl => ?_)
  refine lv_iinc (v := 4) (lv' := [(2, .int 4), (1, .int 0), (0, .ref a0)]) hx hb dX9_longestDelay_24 hl (k := 1) rfl (by decide) (by decide) rfl (fun ls hl => ?_)
  refine lv_goto (tgt := 4) hx hb dX9_longestDelay_27 (by decide) ?_
  refine lv_iload_n hx hb dX9_longestDelay_4 rfl (lv_at hl 0 rfl) ?_
  refine lv_bipush (v := 64) hx hb dX9_longestDelay_5 (by decide) ?_
  refine lv_icmp_ge (tgt := 30) hx hb dX9_longestDelay_7 (by decide) (fun c9 => absurd c9 (by decide)) (fun _ => ?_)
  refine lv_iload_n hx hb dX9_longestDelay_10 rfl (lv_at hl 1 rfl) ?_
  refine lv_aload_n hx hb dX9_longestDelay_11 rfl (lv_at hl 2 rfl) ?_
  refine va_get (D := D) (ci := 9) (v := .ref a1) (C := RX9) (T := TX9) (N := 18) hx hb hts iX9_longestDelay_9 hown hN.1 hP 0 rfl rfl 8 (by decide) (hts _ mX9_longestDelay_1) (fun _ h9 => h9) rfl dX9_longestDelay_12 ?_
  refine lv_bipush (v := 119) hx hb dX9_longestDelay_15 (by decide) ?_
  refine lv_iload_n hx hb dX9_longestDelay_17 rfl (lv_at hl 0 rfl) ?_
  refine lv_iadd hx hb dX9_longestDelay_18 ?_
  refine tp_i (123) (by decide) ?_
  refine ld_i (v := 0) hx hb hN hP 1 rfl (vin (by decide +kernel)) (by first | rfl | decide +kernel) dX9_longestDelay_19 ?_
  refine cs_i (As := [.int 0, .int 0]) (rest := []) (wr := [(a0, .inr (9, [.int 0, .ref a2, .int 0, .int 0, .int 0, .int 0, .int 0, .int (-1), .ref a1, .ref a3, .ref a4, .ref a5, .int 1, .int 0, .int 0, .int 0, .int 0, .ref a6])), (a1, .inl (cs 0, 45783, .inl (layF (fun _ => 0) 1)))]) ⟨hx, hb, hml, hown, hts⟩ (fun sz => k145_X9_max l D cs sz ) (va_cwS 2 hts gX9_longestDelay_X9_max rfl rfl rfl hdX9_max_o ⟨Nat.le_of_ble_eq_true rfl, Nat.le_of_ble_eq_true rfl⟩) hN hP hD hS hA [] [0, 1] rfl rfl rfl rfl (by decide) rfl rfl hl.1 (Nat.le_of_ble_eq_true rfl) dX9_longestDelay_20 (Nat.le_of_ble_eq_true rfl) (Nat.le_of_ble_eq_true rfl) (fun u4 H locs hP hD hS => ?_)
  have hP : va_P D vwCl [(a0, .inr (9, [.int 0, .ref a2, .int 0, .int 0, .int 0, .int 0, .int 0, .int (-1), .ref a1, .ref a3, .ref a4, .ref a5, .int 1, .int 0, .int 0, .int 0, .int 0, .ref a6])), (a1, .inl (cs 0, 45783, .inl (layF (fun _ => 0) 1)))] H := hP
  have hD : va_D A [(a0, .inr (9, [.int 0, .ref a2, .int 0, .int 0, .int 0, .int 0, .int 0, .int (-1), .ref a1, .ref a3, .ref a4, .ref a5, .int 1, .int 0, .int 0, .int 0, .int 0, .ref a6])), (a1, .inl (cs 0, 45783, .inl (layF (fun _ => 0) 1)))] := hD
  refine W.widen (k := 0) (n := 0) (Nat.le_of_ble_eq_true rfl) (Nat.le_of_ble_eq_true rfl) ?_
  refine lv_istore_n (lv' := [(1, .int 0), (2, .int 4), (0, .ref a0)]) hx hb dX9_longestDelay_23 rfl hl (by decide) rfl (fun ls hl => ?_)
  refine lv_iinc (v := 5) (lv' := [(2, .int 5), (1, .int 0), (0, .ref a0)]) hx hb dX9_longestDelay_24 hl (k := 1) rfl (by decide) (by decide) rfl (fun ls hl => ?_)
  refine lv_goto (tgt := 4) hx hb dX9_longestDelay_27 (by decide) ?_
  refine lv_iload_n hx hb dX9_longestDelay_4 rfl (lv_at hl 0 rfl) ?_
  refine lv_bipush (v := 64) hx hb dX9_longestDelay_5 (by decide) ?_
  refine lv_icmp_ge (tgt := 30) hx hb dX9_longestDelay_7 (by decide) (fun c9 => absurd c9 (by decide)) (fun _ => ?_)
  refine lv_iload_n hx hb dX9_longestDelay_10 rfl (lv_at hl 1 rfl) ?_
  refine lv_aload_n hx hb dX9_longestDelay_11 rfl (lv_at hl 2 rfl) ?_
  refine va_get (D := D) (ci := 9) (v := .ref a1) (C := RX9) (T := TX9) (N := 18) hx hb hts iX9_longestDelay_9 hown hN.1 hP 0 rfl rfl 8 (by decide) (hts _ mX9_longestDelay_1) (fun _ h9 => h9) rfl dX9_longestDelay_12 ?_
  refine lv_bipush (v := 119) hx hb dX9_longestDelay_15 (by decide) ?_
  refine lv_iload_n hx hb dX9_longestDelay_17 rfl (lv_at hl 0 rfl) ?_
  refine lv_iadd hx hb dX9_longestDelay_18 ?_
  refine tp_i (124) (by decide) ?_
  refine ld_i (v := 0) hx hb hN hP 1 rfl (vin (by decide +kernel)) (by first | rfl | decide +kernel) dX9_longestDelay_19 ?_
  refine cs_i (As := [.int 0, .int 0]) (rest := []) (wr := [(a0, .inr (9, [.int 0, .ref a2, .int 0, .int 0, .int 0, .int 0, .int 0, .int (-1), .ref a1, .ref a3, .ref a4, .ref a5, .int 1, .int 0, .int 0, .int 0, .int 0, .ref a6])), (a1, .inl (cs 0, 45783, .inl (layF (fun _ => 0) 1)))]) ⟨hx, hb, hml, hown, hts⟩ (fun sz => k145_X9_max l D cs sz ) (va_cwS 2 hts gX9_longestDelay_X9_max rfl rfl rfl hdX9_max_o ⟨Nat.le_of_ble_eq_true rfl, Nat.le_of_ble_eq_true rfl⟩) hN hP hD hS hA [] [0, 1] rfl rfl rfl rfl (by decide) rfl rfl hl.1 (Nat.le_of_ble_eq_true rfl) dX9_longestDelay_20 (Nat.le_of_ble_eq_true rfl) (Nat.le_of_ble_eq_true rfl) (fun u5 H locs hP hD hS => ?_)
  have hP : va_P D vwCl [(a0, .inr (9, [.int 0, .ref a2, .int 0, .int 0, .int 0, .int 0, .int 0, .int (-1), .ref a1, .ref a3, .ref a4, .ref a5, .int 1, .int 0, .int 0, .int 0, .int 0, .ref a6])), (a1, .inl (cs 0, 45783, .inl (layF (fun _ => 0) 1)))] H := hP
  have hD : va_D A [(a0, .inr (9, [.int 0, .ref a2, .int 0, .int 0, .int 0, .int 0, .int 0, .int (-1), .ref a1, .ref a3, .ref a4, .ref a5, .int 1, .int 0, .int 0, .int 0, .int 0, .ref a6])), (a1, .inl (cs 0, 45783, .inl (layF (fun _ => 0) 1)))] := hD
  refine W.widen (k := 0) (n := 0) (Nat.le_of_ble_eq_true rfl) (Nat.le_of_ble_eq_true rfl) ?_
  refine lv_istore_n (lv' := [(1, .int 0), (2, .int 5), (0, .ref a0)]) hx hb dX9_longestDelay_23 rfl hl (by decide) rfl (fun ls hl => ?_)
  refine lv_iinc (v := 6) (lv' := [(2, .int 6), (1, .int 0), (0, .ref a0)]) hx hb dX9_longestDelay_24 hl (k := 1) rfl (by decide) (by decide) rfl (fun ls hl => ?_)
  refine lv_goto (tgt := 4) hx hb dX9_longestDelay_27 (by decide) ?_
  refine lv_iload_n hx hb dX9_longestDelay_4 rfl (lv_at hl 0 rfl) ?_
  refine lv_bipush (v := 64) hx hb dX9_longestDelay_5 (by decide) ?_
  refine lv_icmp_ge (tgt := 30) hx hb dX9_longestDelay_7 (by decide) (fun c9 => absurd c9 (by decide)) (fun _ => ?_)
  refine lv_iload_n hx hb dX9_longestDelay_10 rfl (lv_at hl 1 rfl) ?_
  refine lv_aload_n hx hb dX9_longestDelay_11 rfl (lv_at hl 2 rfl) ?_
  refine va_get (D := D) (ci := 9) (v := .ref a1) (C := RX9) (T := TX9) (N := 18) hx hb hts iX9_longestDelay_9 hown hN.1 hP 0 rfl rfl 8 (by decide) (hts _ mX9_longestDelay_1) (fun _ h9 => h9) rfl dX9_longestDelay_12 ?_
  refine lv_bipush (v := 119) hx hb dX9_longestDelay_15 (by decide) ?_
  refine lv_iload_n hx hb dX9_longestDelay_17 rfl (lv_at hl 0 rfl) ?_
  refine lv_iadd hx hb dX9_longestDelay_18 ?_
  refine tp_i (125) (by decide) ?_
  refine ld_i (v := 0) hx hb hN hP 1 rfl (vin (by decide +kernel)) (by first | rfl | decide +kernel) dX9_longestDelay_19 ?_
  refine cs_i (As := [.int 0, .int 0]) (rest := []) (wr := [(a0, .inr (9, [.int 0, .ref a2, .int 0, .int 0, .int 0, .int 0, .int 0, .int (-1), .ref a1, .ref a3, .ref a4, .ref a5, .int 1, .int 0, .int 0, .int 0, .int 0, .ref a6])), (a1, .inl (cs 0, 45783, .inl (layF (fun _ => 0) 1)))]) ⟨hx, hb, hml, hown, hts⟩ (fun sz => k145_X9_max l D cs sz ) (va_cwS 2 hts gX9_longestDelay_X9_max rfl rfl rfl hdX9_max_o ⟨Nat.le_of_ble_eq_true rfl, Nat.le_of_ble_eq_true rfl⟩) hN hP hD hS hA [] [0, 1] rfl rfl rfl rfl (by decide) rfl rfl hl.1 (Nat.le_of_ble_eq_true rfl) dX9_longestDelay_20 (Nat.le_of_ble_eq_true rfl) (Nat.le_of_ble_eq_true rfl) (fun u6 H locs hP hD hS => ?_)
  have hP : va_P D vwCl [(a0, .inr (9, [.int 0, .ref a2, .int 0, .int 0, .int 0, .int 0, .int 0, .int (-1), .ref a1, .ref a3, .ref a4, .ref a5, .int 1, .int 0, .int 0, .int 0, .int 0, .ref a6])), (a1, .inl (cs 0, 45783, .inl (layF (fun _ => 0) 1)))] H := hP
  have hD : va_D A [(a0, .inr (9, [.int 0, .ref a2, .int 0, .int 0, .int 0, .int 0, .int 0, .int (-1), .ref a1, .ref a3, .ref a4, .ref a5, .int 1, .int 0, .int 0, .int 0, .int 0, .ref a6])), (a1, .inl (cs 0, 45783, .inl (layF (fun _ => 0) 1)))] := hD
  refine W.widen (k := 0) (n := 0) (Nat.le_of_ble_eq_true rfl) (Nat.le_of_ble_eq_true rfl) ?_
  refine lv_istore_n (lv' := [(1, .int 0), (2, .int 6), (0, .ref a0)]) hx hb dX9_longestDelay_23 rfl hl (by decide) rfl (fun ls hl => ?_)
  refine lv_iinc (v := 7) (lv' := [(2, .int 7), (1, .int 0), (0, .ref a0)]) hx hb dX9_longestDelay_24 hl (k := 1) rfl (by decide) (by decide) rfl (fun ls hl => ?_)
  refine lv_goto (tgt := 4) hx hb dX9_longestDelay_27 (by decide) ?_
  refine lv_iload_n hx hb dX9_longestDelay_4 rfl (lv_at hl 0 rfl) ?_
  refine lv_bipush (v := 64) hx hb dX9_longestDelay_5 (by decide) ?_
  refine lv_icmp_ge (tgt := 30) hx hb dX9_longestDelay_7 (by decide) (fun c9 => absurd c9 (by decide)) (fun _ => ?_)
  refine lv_iload_n hx hb dX9_longestDelay_10 rfl (lv_at hl 1 rfl) ?_
  refine lv_aload_n hx hb dX9_longestDelay_11 rfl (lv_at hl 2 rfl) ?_
  refine va_get (D := D) (ci := 9) (v := .ref a1) (C := RX9) (T := TX9) (N := 18) hx hb hts iX9_longestDelay_9 hown hN.1 hP 0 rfl rfl 8 (by decide) (hts _ mX9_longestDelay_1) (fun _ h9 => h9) rfl dX9_longestDelay_12 ?_
  refine lv_bipush (v := 119) hx hb dX9_longestDelay_15 (by decide) ?_
  refine lv_iload_n hx hb dX9_longestDelay_17 rfl (lv_at hl 0 rfl) ?_
  refine lv_iadd hx hb dX9_longestDelay_18 ?_
  refine tp_i (126) (by decide) ?_
  refine ld_i (v := 0) hx hb hN hP 1 rfl (vin (by decide +kernel)) (by first | rfl | decide +kernel) dX9_longestDelay_19 ?_
  refine cs_i (As := [.int 0, .int 0]) (rest := []) (wr := [(a0, .inr (9, [.int 0, .ref a2, .int 0, .int 0, .int 0, .int 0, .int 0, .int (-1), .ref a1, .ref a3, .ref a4, .ref a5, .int 1, .int 0, .int 0, .int 0, .int 0, .ref a6])), (a1, .inl (cs 0, 45783, .inl (layF (fun _ => 0) 1)))]) ⟨hx, hb, hml, hown, hts⟩ (fun sz => k145_X9_max l D cs sz ) (va_cwS 2 hts gX9_longestDelay_X9_max rfl rfl rfl hdX9_max_o ⟨Nat.le_of_ble_eq_true rfl, Nat.le_of_ble_eq_true rfl⟩) hN hP hD hS hA [] [0, 1] rfl rfl rfl rfl (by decide) rfl rfl hl.1 (Nat.le_of_ble_eq_true rfl) dX9_longestDelay_20 (Nat.le_of_ble_eq_true rfl) (Nat.le_of_ble_eq_true rfl) (fun u7 H locs hP hD hS => ?_)
  have hP : va_P D vwCl [(a0, .inr (9, [.int 0, .ref a2, .int 0, .int 0, .int 0, .int 0, .int 0, .int (-1), .ref a1, .ref a3, .ref a4, .ref a5, .int 1, .int 0, .int 0, .int 0, .int 0, .ref a6])), (a1, .inl (cs 0, 45783, .inl (layF (fun _ => 0) 1)))] H := hP
  have hD : va_D A [(a0, .inr (9, [.int 0, .ref a2, .int 0, .int 0, .int 0, .int 0, .int 0, .int (-1), .ref a1, .ref a3, .ref a4, .ref a5, .int 1, .int 0, .int 0, .int 0, .int 0, .ref a6])), (a1, .inl (cs 0, 45783, .inl (layF (fun _ => 0) 1)))] := hD
  refine W.widen (k := 0) (n := 0) (Nat.le_of_ble_eq_true rfl) (Nat.le_of_ble_eq_true rfl) ?_
  refine lv_istore_n (lv' := [(1, .int 0), (2, .int 7), (0, .ref a0)]) hx hb dX9_longestDelay_23 rfl hl (by decide) rfl (fun ls hl => ?_)
  refine lv_iinc (v := 8) (lv' := [(2, .int 8), (1, .int 0), (0, .ref a0)]) hx hb dX9_longestDelay_24 hl (k := 1) rfl (by decide) (by decide) rfl (fun ls hl => ?_)
  refine lv_goto (tgt := 4) hx hb dX9_longestDelay_27 (by decide) ?_
  refine lv_iload_n hx hb dX9_longestDelay_4 rfl (lv_at hl 0 rfl) ?_
  refine lv_bipush (v := 64) hx hb dX9_longestDelay_5 (by decide) ?_
  refine lv_icmp_ge (tgt := 30) hx hb dX9_longestDelay_7 (by decide) (fun c9 => absurd c9 (by decide)) (fun _ => ?_)
  refine lv_iload_n hx hb dX9_longestDelay_10 rfl (lv_at hl 1 rfl) ?_
  refine lv_aload_n hx hb dX9_longestDelay_11 rfl (lv_at hl 2 rfl) ?_
  refine va_get (D := D) (ci := 9) (v := .ref a1) (C := RX9) (T := TX9) (N := 18) hx hb hts iX9_longestDelay_9 hown hN.1 hP 0 rfl rfl 8 (by decide) (hts _ mX9_longestDelay_1) (fun _ h9 => h9) rfl dX9_longestDelay_12 ?_
  refine lv_bipush (v := 119) hx hb dX9_longestDelay_15 (by decide) ?_
  refine lv_iload_n hx hb dX9_longestDelay_17 rfl (lv_at hl 0 rfl) ?_
  refine lv_iadd hx hb dX9_longestDelay_18 ?_
  refine tp_i (127) (by decide) ?_
  refine ld_i (v := 0) hx hb hN hP 1 rfl (vin (by decide +kernel)) (by first | rfl | decide +kernel) dX9_longestDelay_19 ?_
  refine cs_i (As := [.int 0, .int 0]) (rest := []) (wr := [(a0, .inr (9, [.int 0, .ref a2, .int 0, .int 0, .int 0, .int 0, .int 0, .int (-1), .ref a1, .ref a3, .ref a4, .ref a5, .int 1, .int 0, .int 0, .int 0, .int 0, .ref a6])), (a1, .inl (cs 0, 45783, .inl (layF (fun _ => 0) 1)))]) ⟨hx, hb, hml, hown, hts⟩ (fun sz => k145_X9_max l D cs sz ) (va_cwS 2 hts gX9_longestDelay_X9_max rfl rfl rfl hdX9_max_o ⟨Nat.le_of_ble_eq_true rfl, Nat.le_of_ble_eq_true rfl⟩) hN hP hD hS hA [] [0, 1] rfl rfl rfl rfl (by decide) rfl rfl hl.1 (Nat.le_of_ble_eq_true rfl) dX9_longestDelay_20 (Nat.le_of_ble_eq_true rfl) (Nat.le_of_ble_eq_true rfl) (fun u8 H locs hP hD hS => ?_)
  have hP : va_P D vwCl [(a0, .inr (9, [.int 0, .ref a2, .int 0, .int 0, .int 0, .int 0, .int 0, .int (-1), .ref a1, .ref a3, .ref a4, .ref a5, .int 1, .int 0, .int 0, .int 0, .int 0, .ref a6])), (a1, .inl (cs 0, 45783, .inl (layF (fun _ => 0) 1)))] H := hP
  have hD : va_D A [(a0, .inr (9, [.int 0, .ref a2, .int 0, .int 0, .int 0, .int 0, .int 0, .int (-1), .ref a1, .ref a3, .ref a4, .ref a5, .int 1, .int 0, .int 0, .int 0, .int 0, .ref a6])), (a1, .inl (cs 0, 45783, .inl (layF (fun _ => 0) 1)))] := hD
  refine W.widen (k := 0) (n := 0) (Nat.le_of_ble_eq_true rfl) (Nat.le_of_ble_eq_true rfl) ?_
  refine lv_istore_n (lv' := [(1, .int 0), (2, .int 8), (0, .ref a0)]) hx hb dX9_longestDelay_23 rfl hl (by decide) rfl (fun ls hl => ?_)
  refine lv_iinc (v := 9) (lv' := [(2, .int 9), (1, .int 0), (0, .ref a0)]) hx hb dX9_longestDelay_24 hl (k := 1) rfl (by decide) (by decide) rfl (fun ls hl => ?_)
  refine lv_goto (tgt := 4) hx hb dX9_longestDelay_27 (by decide) ?_
  refine lv_iload_n hx hb dX9_longestDelay_4 rfl (lv_at hl 0 rfl) ?_
  refine lv_bipush (v := 64) hx hb dX9_longestDelay_5 (by decide) ?_
  refine lv_icmp_ge (tgt := 30) hx hb dX9_longestDelay_7 (by decide) (fun c9 => absurd c9 (by decide)) (fun _ => ?_)
  refine lv_iload_n hx hb dX9_longestDelay_10 rfl (lv_at hl 1 rfl) ?_
  refine lv_aload_n hx hb dX9_longestDelay_11 rfl (lv_at hl 2 rfl) ?_
  refine va_get (D := D) (ci := 9) (v := .ref a1) (C := RX9) (T := TX9) (N := 18) hx hb hts iX9_longestDelay_9 hown hN.1 hP 0 rfl rfl 8 (by decide) (hts _ mX9_longestDelay_1) (fun _ h9 => h9) rfl dX9_longestDelay_12 ?_
  refine lv_bipush (v := 119) hx hb dX9_longestDelay_15 (by decide) ?_
  refine lv_iload_n hx hb dX9_longestDelay_17 rfl (lv_at hl 0 rfl) ?_
  refine lv_iadd hx hb dX9_longestDelay_18 ?_
  refine tp_i (128) (by decide) ?_
  refine ld_i (v := 0) hx hb hN hP 1 rfl (vin (by decide +kernel)) (by first | rfl | decide +kernel) dX9_longestDelay_19 ?_
  refine cs_i (As := [.int 0, .int 0]) (rest := []) (wr := [(a0, .inr (9, [.int 0, .ref a2, .int 0, .int 0, .int 0, .int 0, .int 0, .int (-1), .ref a1, .ref a3, .ref a4, .ref a5, .int 1, .int 0, .int 0, .int 0, .int 0, .ref a6])), (a1, .inl (cs 0, 45783, .inl (layF (fun _ => 0) 1)))]) ⟨hx, hb, hml, hown, hts⟩ (fun sz => k145_X9_max l D cs sz ) (va_cwS 2 hts gX9_longestDelay_X9_max rfl rfl rfl hdX9_max_o ⟨Nat.le_of_ble_eq_true rfl, Nat.le_of_ble_eq_true rfl⟩) hN hP hD hS hA [] [0, 1] rfl rfl rfl rfl (by decide) rfl rfl hl.1 (Nat.le_of_ble_eq_true rfl) dX9_longestDelay_20 (Nat.le_of_ble_eq_true rfl) (Nat.le_of_ble_eq_true rfl) (fun u9 H locs hP hD hS => ?_)
  have hP : va_P D vwCl [(a0, .inr (9, [.int 0, .ref a2, .int 0, .int 0, .int 0, .int 0, .int 0, .int (-1), .ref a1, .ref a3, .ref a4, .ref a5, .int 1, .int 0, .int 0, .int 0, .int 0, .ref a6])), (a1, .inl (cs 0, 45783, .inl (layF (fun _ => 0) 1)))] H := hP
  have hD : va_D A [(a0, .inr (9, [.int 0, .ref a2, .int 0, .int 0, .int 0, .int 0, .int 0, .int (-1), .ref a1, .ref a3, .ref a4, .ref a5, .int 1, .int 0, .int 0, .int 0, .int 0, .ref a6])), (a1, .inl (cs 0, 45783, .inl (layF (fun _ => 0) 1)))] := hD
  refine W.widen (k := 0) (n := 0) (Nat.le_of_ble_eq_true rfl) (Nat.le_of_ble_eq_true rfl) ?_
  refine lv_istore_n (lv' := [(1, .int 0), (2, .int 9), (0, .ref a0)]) hx hb dX9_longestDelay_23 rfl hl (by decide) rfl (fun ls hl => ?_)
  refine lv_iinc (v := 10) (lv' := [(2, .int 10), (1, .int 0), (0, .ref a0)]) hx hb dX9_longestDelay_24 hl (k := 1) rfl (by decide) (by decide) rfl (fun ls hl => ?_)
  refine lv_goto (tgt := 4) hx hb dX9_longestDelay_27 (by decide) ?_
  refine lv_iload_n hx hb dX9_longestDelay_4 rfl (lv_at hl 0 rfl) ?_
  refine lv_bipush (v := 64) hx hb dX9_longestDelay_5 (by decide) ?_
  refine lv_icmp_ge (tgt := 30) hx hb dX9_longestDelay_7 (by decide) (fun c9 => absurd c9 (by decide)) (fun _ => ?_)
  refine lv_iload_n hx hb dX9_longestDelay_10 rfl (lv_at hl 1 rfl) ?_
  refine lv_aload_n hx hb dX9_longestDelay_11 rfl (lv_at hl 2 rfl) ?_
  refine va_get (D := D) (ci := 9) (v := .ref a1) (C := RX9) (T := TX9) (N := 18) hx hb hts iX9_longestDelay_9 hown hN.1 hP 0 rfl rfl 8 (by decide) (hts _ mX9_longestDelay_1) (fun _ h9 => h9) rfl dX9_longestDelay_12 ?_
  refine lv_bipush (v := 119) hx hb dX9_longestDelay_15 (by decide) ?_
  refine lv_iload_n hx hb dX9_longestDelay_17 rfl (lv_at hl 0 rfl) ?_
  refine lv_iadd hx hb dX9_longestDelay_18 ?_
  refine tp_i (129) (by decide) ?_
  refine ld_i (v := 0) hx hb hN hP 1 rfl (vin (by decide +kernel)) (by first | rfl | decide +kernel) dX9_longestDelay_19 ?_
  refine cs_i (As := [.int 0, .int 0]) (rest := []) (wr := [(a0, .inr (9, [.int 0, .ref a2, .int 0, .int 0, .int 0, .int 0, .int 0, .int (-1), .ref a1, .ref a3, .ref a4, .ref a5, .int 1, .int 0, .int 0, .int 0, .int 0, .ref a6])), (a1, .inl (cs 0, 45783, .inl (layF (fun _ => 0) 1)))]) ⟨hx, hb, hml, hown, hts⟩ (fun sz => k145_X9_max l D cs sz ) (va_cwS 2 hts gX9_longestDelay_X9_max rfl rfl rfl hdX9_max_o ⟨Nat.le_of_ble_eq_true rfl, Nat.le_of_ble_eq_true rfl⟩) hN hP hD hS hA [] [0, 1] rfl rfl rfl rfl (by decide) rfl rfl hl.1 (Nat.le_of_ble_eq_true rfl) dX9_longestDelay_20 (Nat.le_of_ble_eq_true rfl) (Nat.le_of_ble_eq_true rfl) (fun u10 H locs hP hD hS => ?_)
  have hP : va_P D vwCl [(a0, .inr (9, [.int 0, .ref a2, .int 0, .int 0, .int 0, .int 0, .int 0, .int (-1), .ref a1, .ref a3, .ref a4, .ref a5, .int 1, .int 0, .int 0, .int 0, .int 0, .ref a6])), (a1, .inl (cs 0, 45783, .inl (layF (fun _ => 0) 1)))] H := hP
  have hD : va_D A [(a0, .inr (9, [.int 0, .ref a2, .int 0, .int 0, .int 0, .int 0, .int 0, .int (-1), .ref a1, .ref a3, .ref a4, .ref a5, .int 1, .int 0, .int 0, .int 0, .int 0, .ref a6])), (a1, .inl (cs 0, 45783, .inl (layF (fun _ => 0) 1)))] := hD
  refine W.widen (k := 0) (n := 0) (Nat.le_of_ble_eq_true rfl) (Nat.le_of_ble_eq_true rfl) ?_
  refine lv_istore_n (lv' := [(1, .int 0), (2, .int 10), (0, .ref a0)]) hx hb dX9_longestDelay_23 rfl hl (by decide) rfl (fun ls hl => ?_)
  refine lv_iinc (v := 11) (lv' := [(2, .int 11), (1, .int 0), (0, .ref a0)]) hx hb dX9_longestDelay_24 hl (k := 1) rfl (by decide) (by decide) rfl (fun ls hl => ?_)
  refine lv_goto (tgt := 4) hx hb dX9_longestDelay_27 (by decide) ?_
  refine lv_iload_n hx hb dX9_longestDelay_4 rfl (lv_at hl 0 rfl) ?_
  refine lv_bipush (v := 64) hx hb dX9_longestDelay_5 (by decide) ?_
  refine lv_icmp_ge (tgt := 30) hx hb dX9_longestDelay_7 (by decide) (fun c9 => absurd c9 (by decide)) (fun _ => ?_)
  refine lv_iload_n hx hb dX9_longestDelay_10 rfl (lv_at hl 1 rfl) ?_
  refine lv_aload_n hx hb dX9_longestDelay_11 rfl (lv_at hl 2 rfl) ?_
  refine va_get (D := D) (ci := 9) (v := .ref a1) (C := RX9) (T := TX9) (N := 18) hx hb hts iX9_longestDelay_9 hown hN.1 hP 0 rfl rfl 8 (by decide) (hts _ mX9_longestDelay_1) (fun _ h9 => h9) rfl dX9_longestDelay_12 ?_
  refine lv_bipush (v := 119) hx hb dX9_longestDelay_15 (by decide) ?_
  refine lv_iload_n hx hb dX9_longestDelay_17 rfl (lv_at hl 0 rfl) ?_
  refine lv_iadd hx hb dX9_longestDelay_18 ?_
  refine tp_i (130) (by decide) ?_
  refine ld_i (v := 0) hx hb hN hP 1 rfl (vin (by decide +kernel)) (by first | rfl | decide +kernel) dX9_longestDelay_19 ?_
  refine cs_i (As := [.int 0, .int 0]) (rest := []) (wr := [(a0, .inr (9, [.int 0, .ref a2, .int 0, .int 0, .int 0, .int 0, .int 0, .int (-1), .ref a1, .ref a3, .ref a4, .ref a5, .int 1, .int 0, .int 0, .int 0, .int 0, .ref a6])), (a1, .inl (cs 0, 45783, .inl (layF (fun _ => 0) 1)))]) ⟨hx, hb, hml, hown, hts⟩ (fun sz => k145_X9_max l D cs sz ) (va_cwS 2 hts gX9_longestDelay_X9_max rfl rfl rfl hdX9_max_o ⟨Nat.le_of_ble_eq_true rfl, Nat.le_of_ble_eq_true rfl⟩) hN hP hD hS hA [] [0, 1] rfl rfl rfl rfl (by decide) rfl rfl hl.1 (Nat.le_of_ble_eq_true rfl) dX9_longestDelay_20 (Nat.le_of_ble_eq_true rfl) (Nat.le_of_ble_eq_true rfl) (fun u11 H locs hP hD hS => ?_)
  have hP : va_P D vwCl [(a0, .inr (9, [.int 0, .ref a2, .int 0, .int 0, .int 0, .int 0, .int 0, .int (-1), .ref a1, .ref a3, .ref a4, .ref a5, .int 1, .int 0, .int 0, .int 0, .int 0, .ref a6])), (a1, .inl (cs 0, 45783, .inl (layF (fun _ => 0) 1)))] H := hP
  have hD : va_D A [(a0, .inr (9, [.int 0, .ref a2, .int 0, .int 0, .int 0, .int 0, .int 0, .int (-1), .ref a1, .ref a3, .ref a4, .ref a5, .int 1, .int 0, .int 0, .int 0, .int 0, .ref a6])), (a1, .inl (cs 0, 45783, .inl (layF (fun _ => 0) 1)))] := hD
  refine W.widen (k := 0) (n := 0) (Nat.le_of_ble_eq_true rfl) (Nat.le_of_ble_eq_true rfl) ?_
  refine lv_istore_n (lv' := [(1, .int 0), (2, .int 11), (0, .ref a0)]) hx hb dX9_longestDelay_23 rfl hl (by decide) rfl (fun ls hl => ?_)
  refine lv_iinc (v := 12) (lv' := [(2, .int 12), (1, .int 0), (0, .ref a0)]) hx hb dX9_longestDelay_24 hl (k := 1) rfl (by decide) (by decide) rfl (fun ls hl => ?_)
  refine lv_goto (tgt := 4) hx hb dX9_longestDelay_27 (by decide) ?_
  refine lv_iload_n hx hb dX9_longestDelay_4 rfl (lv_at hl 0 rfl) ?_
  refine lv_bipush (v := 64) hx hb dX9_longestDelay_5 (by decide) ?_
  refine lv_icmp_ge (tgt := 30) hx hb dX9_longestDelay_7 (by decide) (fun c9 => absurd c9 (by decide)) (fun _ => ?_)
  refine lv_iload_n hx hb dX9_longestDelay_10 rfl (lv_at hl 1 rfl) ?_
  refine lv_aload_n hx hb dX9_longestDelay_11 rfl (lv_at hl 2 rfl) ?_
  refine va_get (D := D) (ci := 9) (v := .ref a1) (C := RX9) (T := TX9) (N := 18) hx hb hts iX9_longestDelay_9 hown hN.1 hP 0 rfl rfl 8 (by decide) (hts _ mX9_longestDelay_1) (fun _ h9 => h9) rfl dX9_longestDelay_12 ?_
  refine lv_bipush (v := 119) hx hb dX9_longestDelay_15 (by decide) ?_
  refine lv_iload_n hx hb dX9_longestDelay_17 rfl (lv_at hl 0 rfl) ?_
  refine lv_iadd hx hb dX9_longestDelay_18 ?_
  refine tp_i (131) (by decide) ?_
  refine ld_i (v := 0) hx hb hN hP 1 rfl (vin (by decide +kernel)) (by first | rfl | decide +kernel) dX9_longestDelay_19 ?_
  refine cs_i (As := [.int 0, .int 0]) (rest := []) (wr := [(a0, .inr (9, [.int 0, .ref a2, .int 0, .int 0, .int 0, .int 0, .int 0, .int (-1), .ref a1, .ref a3, .ref a4, .ref a5, .int 1, .int 0, .int 0, .int 0, .int 0, .ref a6])), (a1, .inl (cs 0, 45783, .inl (layF (fun _ => 0) 1)))]) ⟨hx, hb, hml, hown, hts⟩ (fun sz => k145_X9_max l D cs sz ) (va_cwS 2 hts gX9_longestDelay_X9_max rfl rfl rfl hdX9_max_o ⟨Nat.le_of_ble_eq_true rfl, Nat.le_of_ble_eq_true rfl⟩) hN hP hD hS hA [] [0, 1] rfl rfl rfl rfl (by decide) rfl rfl hl.1 (Nat.le_of_ble_eq_true rfl) dX9_longestDelay_20 (Nat.le_of_ble_eq_true rfl) (Nat.le_of_ble_eq_true rfl) (fun u12 H locs hP hD hS => ?_)
  have hP : va_P D vwCl [(a0, .inr (9, [.int 0, .ref a2, .int 0, .int 0, .int 0, .int 0, .int 0, .int (-1), .ref a1, .ref a3, .ref a4, .ref a5, .int 1, .int 0, .int 0, .int 0, .int 0, .ref a6])), (a1, .inl (cs 0, 45783, .inl (layF (fun _ => 0) 1)))] H := hP
  have hD : va_D A [(a0, .inr (9, [.int 0, .ref a2, .int 0, .int 0, .int 0, .int 0, .int 0, .int (-1), .ref a1, .ref a3, .ref a4, .ref a5, .int 1, .int 0, .int 0, .int 0, .int 0, .ref a6])), (a1, .inl (cs 0, 45783, .inl (layF (fun _ => 0) 1)))] := hD
  refine W.widen (k := 0) (n := 0) (Nat.le_of_ble_eq_true rfl) (Nat.le_of_ble_eq_true rfl) ?_
  refine lv_istore_n (lv' := [(1, .int 0), (2, .int 12), (0, .ref a0)]) hx hb dX9_longestDelay_23 rfl hl (by decide) rfl (fun ls hl => ?_)
  refine lv_iinc (v := 13) (lv' := [(2, .int 13), (1, .int 0), (0, .ref a0)]) hx hb dX9_longestDelay_24 hl (k := 1) rfl (by decide) (by decide) rfl (fun ls hl => ?_)
  refine lv_goto (tgt := 4) hx hb dX9_longestDelay_27 (by decide) ?_
  refine lv_iload_n hx hb dX9_longestDelay_4 rfl (lv_at hl 0 rfl) ?_
  refine lv_bipush (v := 64) hx hb dX9_longestDelay_5 (by decide) ?_
  refine lv_icmp_ge (tgt := 30) hx hb dX9_longestDelay_7 (by decide) (fun c9 => absurd c9 (by decide)) (fun _ => ?_)
  refine lv_iload_n hx hb dX9_longestDelay_10 rfl (lv_at hl 1 rfl) ?_
  refine lv_aload_n hx hb dX9_longestDelay_11 rfl (lv_at hl 2 rfl) ?_
  refine va_get (D := D) (ci := 9) (v := .ref a1) (C := RX9) (T := TX9) (N := 18) hx hb hts iX9_longestDelay_9 hown hN.1 hP 0 rfl rfl 8 (by decide) (hts _ mX9_longestDelay_1) (fun _ h9 => h9) rfl dX9_longestDelay_12 ?_
  refine lv_bipush (v := 119) hx hb dX9_longestDelay_15 (by decide) ?_
  refine lv_iload_n hx hb dX9_longestDelay_17 rfl (lv_at hl 0 rfl) ?_
  refine lv_iadd hx hb dX9_longestDelay_18 ?_
  refine tp_i (132) (by decide) ?_
  refine ld_i (v := 0) hx hb hN hP 1 rfl (vin (by decide +kernel)) (by first | rfl | decide +kernel) dX9_longestDelay_19 ?_
  refine cs_i (As := [.int 0, .int 0]) (rest := []) (wr := [(a0, .inr (9, [.int 0, .ref a2, .int 0, .int 0, .int 0, .int 0, .int 0, .int (-1), .ref a1, .ref a3, .ref a4, .ref a5, .int 1, .int 0, .int 0, .int 0, .int 0, .ref a6])), (a1, .inl (cs 0, 45783, .inl (layF (fun _ => 0) 1)))]) ⟨hx, hb, hml, hown, hts⟩ (fun sz => k145_X9_max l D cs sz ) (va_cwS 2 hts gX9_longestDelay_X9_max rfl rfl rfl hdX9_max_o ⟨Nat.le_of_ble_eq_true rfl, Nat.le_of_ble_eq_true rfl⟩) hN hP hD hS hA [] [0, 1] rfl rfl rfl rfl (by decide) rfl rfl hl.1 (Nat.le_of_ble_eq_true rfl) dX9_longestDelay_20 (Nat.le_of_ble_eq_true rfl) (Nat.le_of_ble_eq_true rfl) (fun u13 H locs hP hD hS => ?_)
  have hP : va_P D vwCl [(a0, .inr (9, [.int 0, .ref a2, .int 0, .int 0, .int 0, .int 0, .int 0, .int (-1), .ref a1, .ref a3, .ref a4, .ref a5, .int 1, .int 0, .int 0, .int 0, .int 0, .ref a6])), (a1, .inl (cs 0, 45783, .inl (layF (fun _ => 0) 1)))] H := hP
  have hD : va_D A [(a0, .inr (9, [.int 0, .ref a2, .int 0, .int 0, .int 0, .int 0, .int 0, .int (-1), .ref a1, .ref a3, .ref a4, .ref a5, .int 1, .int 0, .int 0, .int 0, .int 0, .ref a6])), (a1, .inl (cs 0, 45783, .inl (layF (fun _ => 0) 1)))] := hD
  refine W.widen (k := 0) (n := 0) (Nat.le_of_ble_eq_true rfl) (Nat.le_of_ble_eq_true rfl) ?_
  refine lv_istore_n (lv' := [(1, .int 0), (2, .int 13), (0, .ref a0)]) hx hb dX9_longestDelay_23 rfl hl (by decide) rfl (fun ls hl => ?_)
  refine lv_iinc (v := 14) (lv' := [(2, .int 14), (1, .int 0), (0, .ref a0)]) hx hb dX9_longestDelay_24 hl (k := 1) rfl (by decide) (by decide) rfl (fun ls hl => ?_)
  refine lv_goto (tgt := 4) hx hb dX9_longestDelay_27 (by decide) ?_
  refine lv_iload_n hx hb dX9_longestDelay_4 rfl (lv_at hl 0 rfl) ?_
  refine lv_bipush (v := 64) hx hb dX9_longestDelay_5 (by decide) ?_
  refine lv_icmp_ge (tgt := 30) hx hb dX9_longestDelay_7 (by decide) (fun c9 => absurd c9 (by decide)) (fun _ => ?_)
  refine lv_iload_n hx hb dX9_longestDelay_10 rfl (lv_at hl 1 rfl) ?_
  refine lv_aload_n hx hb dX9_longestDelay_11 rfl (lv_at hl 2 rfl) ?_
  refine va_get (D := D) (ci := 9) (v := .ref a1) (C := RX9) (T := TX9) (N := 18) hx hb hts iX9_longestDelay_9 hown hN.1 hP 0 rfl rfl 8 (by decide) (hts _ mX9_longestDelay_1) (fun _ h9 => h9) rfl dX9_longestDelay_12 ?_
  refine lv_bipush (v := 119) hx hb dX9_longestDelay_15 (by decide) ?_
  refine lv_iload_n hx hb dX9_longestDelay_17 rfl (lv_at hl 0 rfl) ?_
  refine lv_iadd hx hb dX9_longestDelay_18 ?_
  refine tp_i (133) (by decide) ?_
  refine ld_i (v := 0) hx hb hN hP 1 rfl (vin (by decide +kernel)) (by first | rfl | decide +kernel) dX9_longestDelay_19 ?_
  refine cs_i (As := [.int 0, .int 0]) (rest := []) (wr := [(a0, .inr (9, [.int 0, .ref a2, .int 0, .int 0, .int 0, .int 0, .int 0, .int (-1), .ref a1, .ref a3, .ref a4, .ref a5, .int 1, .int 0, .int 0, .int 0, .int 0, .ref a6])), (a1, .inl (cs 0, 45783, .inl (layF (fun _ => 0) 1)))]) ⟨hx, hb, hml, hown, hts⟩ (fun sz => k145_X9_max l D cs sz ) (va_cwS 2 hts gX9_longestDelay_X9_max rfl rfl rfl hdX9_max_o ⟨Nat.le_of_ble_eq_true rfl, Nat.le_of_ble_eq_true rfl⟩) hN hP hD hS hA [] [0, 1] rfl rfl rfl rfl (by decide) rfl rfl hl.1 (Nat.le_of_ble_eq_true rfl) dX9_longestDelay_20 (Nat.le_of_ble_eq_true rfl) (Nat.le_of_ble_eq_true rfl) (fun u14 H locs hP hD hS => ?_)
  have hP : va_P D vwCl [(a0, .inr (9, [.int 0, .ref a2, .int 0, .int 0, .int 0, .int 0, .int 0, .int (-1), .ref a1, .ref a3, .ref a4, .ref a5, .int 1, .int 0, .int 0, .int 0, .int 0, .ref a6])), (a1, .inl (cs 0, 45783, .inl (layF (fun _ => 0) 1)))] H := hP
  have hD : va_D A [(a0, .inr (9, [.int 0, .ref a2, .int 0, .int 0, .int 0, .int 0, .int 0, .int (-1), .ref a1, .ref a3, .ref a4, .ref a5, .int 1, .int 0, .int 0, .int 0, .int 0, .ref a6])), (a1, .inl (cs 0, 45783, .inl (layF (fun _ => 0) 1)))] := hD
  refine W.widen (k := 0) (n := 0) (Nat.le_of_ble_eq_true rfl) (Nat.le_of_ble_eq_true rfl) ?_
  refine lv_istore_n (lv' := [(1, .int 0), (2, .int 14), (0, .ref a0)]) hx hb dX9_longestDelay_23 rfl hl (by decide) rfl (fun ls hl => ?_)
  refine lv_iinc (v := 15) (lv' := [(2, .int 15), (1, .int 0), (0, .ref a0)]) hx hb dX9_longestDelay_24 hl (k := 1) rfl (by decide) (by decide) rfl (fun ls hl => ?_)
  refine lv_goto (tgt := 4) hx hb dX9_longestDelay_27 (by decide) ?_
  refine lv_iload_n hx hb dX9_longestDelay_4 rfl (lv_at hl 0 rfl) ?_
  refine lv_bipush (v := 64) hx hb dX9_longestDelay_5 (by decide) ?_
  refine lv_icmp_ge (tgt := 30) hx hb dX9_longestDelay_7 (by decide) (fun c9 => absurd c9 (by decide)) (fun _ => ?_)
  refine lv_iload_n hx hb dX9_longestDelay_10 rfl (lv_at hl 1 rfl) ?_
  refine lv_aload_n hx hb dX9_longestDelay_11 rfl (lv_at hl 2 rfl) ?_
  refine va_get (D := D) (ci := 9) (v := .ref a1) (C := RX9) (T := TX9) (N := 18) hx hb hts iX9_longestDelay_9 hown hN.1 hP 0 rfl rfl 8 (by decide) (hts _ mX9_longestDelay_1) (fun _ h9 => h9) rfl dX9_longestDelay_12 ?_
  refine lv_bipush (v := 119) hx hb dX9_longestDelay_15 (by decide) ?_
  refine lv_iload_n hx hb dX9_longestDelay_17 rfl (lv_at hl 0 rfl) ?_
  refine lv_iadd hx hb dX9_longestDelay_18 ?_
  refine tp_i (134) (by decide) ?_
  refine ld_i (v := 0) hx hb hN hP 1 rfl (vin (by decide +kernel)) (by first | rfl | decide +kernel) dX9_longestDelay_19 ?_
  refine cs_i (As := [.int 0, .int 0]) (rest := []) (wr := [(a0, .inr (9, [.int 0, .ref a2, .int 0, .int 0, .int 0, .int 0, .int 0, .int (-1), .ref a1, .ref a3, .ref a4, .ref a5, .int 1, .int 0, .int 0, .int 0, .int 0, .ref a6])), (a1, .inl (cs 0, 45783, .inl (layF (fun _ => 0) 1)))]) ⟨hx, hb, hml, hown, hts⟩ (fun sz => k145_X9_max l D cs sz ) (va_cwS 2 hts gX9_longestDelay_X9_max rfl rfl rfl hdX9_max_o ⟨Nat.le_of_ble_eq_true rfl, Nat.le_of_ble_eq_true rfl⟩) hN hP hD hS hA [] [0, 1] rfl rfl rfl rfl (by decide) rfl rfl hl.1 (Nat.le_of_ble_eq_true rfl) dX9_longestDelay_20 (Nat.le_of_ble_eq_true rfl) (Nat.le_of_ble_eq_true rfl) (fun u15 H locs hP hD hS => ?_)
  have hP : va_P D vwCl [(a0, .inr (9, [.int 0, .ref a2, .int 0, .int 0, .int 0, .int 0, .int 0, .int (-1), .ref a1, .ref a3, .ref a4, .ref a5, .int 1, .int 0, .int 0, .int 0, .int 0, .ref a6])), (a1, .inl (cs 0, 45783, .inl (layF (fun _ => 0) 1)))] H := hP
  have hD : va_D A [(a0, .inr (9, [.int 0, .ref a2, .int 0, .int 0, .int 0, .int 0, .int 0, .int (-1), .ref a1, .ref a3, .ref a4, .ref a5, .int 1, .int 0, .int 0, .int 0, .int 0, .ref a6])), (a1, .inl (cs 0, 45783, .inl (layF (fun _ => 0) 1)))] := hD
  refine W.widen (k := 0) (n := 0) (Nat.le_of_ble_eq_true rfl) (Nat.le_of_ble_eq_true rfl) ?_
  refine lv_istore_n (lv' := [(1, .int 0), (2, .int 15), (0, .ref a0)]) hx hb dX9_longestDelay_23 rfl hl (by decide) rfl (fun ls hl => ?_)
  refine lv_iinc (v := 16) (lv' := [(2, .int 16), (1, .int 0), (0, .ref a0)]) hx hb dX9_longestDelay_24 hl (k := 1) rfl (by decide) (by decide) rfl (fun ls hl => ?_)
  refine lv_goto (tgt := 4) hx hb dX9_longestDelay_27 (by decide) ?_
  refine lv_iload_n hx hb dX9_longestDelay_4 rfl (lv_at hl 0 rfl) ?_
  refine lv_bipush (v := 64) hx hb dX9_longestDelay_5 (by decide) ?_
  refine lv_icmp_ge (tgt := 30) hx hb dX9_longestDelay_7 (by decide) (fun c9 => absurd c9 (by decide)) (fun _ => ?_)
  refine lv_iload_n hx hb dX9_longestDelay_10 rfl (lv_at hl 1 rfl) ?_
  refine lv_aload_n hx hb dX9_longestDelay_11 rfl (lv_at hl 2 rfl) ?_
  refine va_get (D := D) (ci := 9) (v := .ref a1) (C := RX9) (T := TX9) (N := 18) hx hb hts iX9_longestDelay_9 hown hN.1 hP 0 rfl rfl 8 (by decide) (hts _ mX9_longestDelay_1) (fun _ h9 => h9) rfl dX9_longestDelay_12 ?_
  refine lv_bipush (v := 119) hx hb dX9_longestDelay_15 (by decide) ?_
  refine lv_iload_n hx hb dX9_longestDelay_17 rfl (lv_at hl 0 rfl) ?_
  refine lv_iadd hx hb dX9_longestDelay_18 ?_
  refine tp_i (135) (by decide) ?_
  refine ld_i (v := 0) hx hb hN hP 1 rfl (vin (by decide +kernel)) (by first | rfl | decide +kernel) dX9_longestDelay_19 ?_
  refine cs_i (As := [.int 0, .int 0]) (rest := []) (wr := [(a0, .inr (9, [.int 0, .ref a2, .int 0, .int 0, .int 0, .int 0, .int 0, .int (-1), .ref a1, .ref a3, .ref a4, .ref a5, .int 1, .int 0, .int 0, .int 0, .int 0, .ref a6])), (a1, .inl (cs 0, 45783, .inl (layF (fun _ => 0) 1)))]) ⟨hx, hb, hml, hown, hts⟩ (fun sz => k145_X9_max l D cs sz ) (va_cwS 2 hts gX9_longestDelay_X9_max rfl rfl rfl hdX9_max_o ⟨Nat.le_of_ble_eq_true rfl, Nat.le_of_ble_eq_true rfl⟩) hN hP hD hS hA [] [0, 1] rfl rfl rfl rfl (by decide) rfl rfl hl.1 (Nat.le_of_ble_eq_true rfl) dX9_longestDelay_20 (Nat.le_of_ble_eq_true rfl) (Nat.le_of_ble_eq_true rfl) (fun u16 H locs hP hD hS => ?_)
  have hP : va_P D vwCl [(a0, .inr (9, [.int 0, .ref a2, .int 0, .int 0, .int 0, .int 0, .int 0, .int (-1), .ref a1, .ref a3, .ref a4, .ref a5, .int 1, .int 0, .int 0, .int 0, .int 0, .ref a6])), (a1, .inl (cs 0, 45783, .inl (layF (fun _ => 0) 1)))] H := hP
  have hD : va_D A [(a0, .inr (9, [.int 0, .ref a2, .int 0, .int 0, .int 0, .int 0, .int 0, .int (-1), .ref a1, .ref a3, .ref a4, .ref a5, .int 1, .int 0, .int 0, .int 0, .int 0, .ref a6])), (a1, .inl (cs 0, 45783, .inl (layF (fun _ => 0) 1)))] := hD
  refine W.widen (k := 0) (n := 0) (Nat.le_of_ble_eq_true rfl) (Nat.le_of_ble_eq_true rfl) ?_
  refine lv_istore_n (lv' := [(1, .int 0), (2, .int 16), (0, .ref a0)]) hx hb dX9_longestDelay_23 rfl hl (by decide) rfl (fun ls hl => ?_)
  refine lv_iinc (v := 17) (lv' := [(2, .int 17), (1, .int 0), (0, .ref a0)]) hx hb dX9_longestDelay_24 hl (k := 1) rfl (by decide) (by decide) rfl (fun ls hl => ?_)
  refine lv_goto (tgt := 4) hx hb dX9_longestDelay_27 (by decide) ?_
  refine lv_iload_n hx hb dX9_longestDelay_4 rfl (lv_at hl 0 rfl) ?_
  refine lv_bipush (v := 64) hx hb dX9_longestDelay_5 (by decide) ?_
  refine lv_icmp_ge (tgt := 30) hx hb dX9_longestDelay_7 (by decide) (fun c9 => absurd c9 (by decide)) (fun _ => ?_)
  refine lv_iload_n hx hb dX9_longestDelay_10 rfl (lv_at hl 1 rfl) ?_
  refine lv_aload_n hx hb dX9_longestDelay_11 rfl (lv_at hl 2 rfl) ?_
  refine va_get (D := D) (ci := 9) (v := .ref a1) (C := RX9) (T := TX9) (N := 18) hx hb hts iX9_longestDelay_9 hown hN.1 hP 0 rfl rfl 8 (by decide) (hts _ mX9_longestDelay_1) (fun _ h9 => h9) rfl dX9_longestDelay_12 ?_
  refine lv_bipush (v := 119) hx hb dX9_longestDelay_15 (by decide) ?_
  refine lv_iload_n hx hb dX9_longestDelay_17 rfl (lv_at hl 0 rfl) ?_
  refine lv_iadd hx hb dX9_longestDelay_18 ?_
  refine tp_i (136) (by decide) ?_
  refine ld_i (v := 0) hx hb hN hP 1 rfl (vin (by decide +kernel)) (by first | rfl | decide +kernel) dX9_longestDelay_19 ?_
  refine cs_i (As := [.int 0, .int 0]) (rest := []) (wr := [(a0, .inr (9, [.int 0, .ref a2, .int 0, .int 0, .int 0, .int 0, .int 0, .int (-1), .ref a1, .ref a3, .ref a4, .ref a5, .int 1, .int 0, .int 0, .int 0, .int 0, .ref a6])), (a1, .inl (cs 0, 45783, .inl (layF (fun _ => 0) 1)))]) ⟨hx, hb, hml, hown, hts⟩ (fun sz => k145_X9_max l D cs sz ) (va_cwS 2 hts gX9_longestDelay_X9_max rfl rfl rfl hdX9_max_o ⟨Nat.le_of_ble_eq_true rfl, Nat.le_of_ble_eq_true rfl⟩) hN hP hD hS hA [] [0, 1] rfl rfl rfl rfl (by decide) rfl rfl hl.1 (Nat.le_of_ble_eq_true rfl) dX9_longestDelay_20 (Nat.le_of_ble_eq_true rfl) (Nat.le_of_ble_eq_true rfl) (fun u17 H locs hP hD hS => ?_)
  have hP : va_P D vwCl [(a0, .inr (9, [.int 0, .ref a2, .int 0, .int 0, .int 0, .int 0, .int 0, .int (-1), .ref a1, .ref a3, .ref a4, .ref a5, .int 1, .int 0, .int 0, .int 0, .int 0, .ref a6])), (a1, .inl (cs 0, 45783, .inl (layF (fun _ => 0) 1)))] H := hP
  have hD : va_D A [(a0, .inr (9, [.int 0, .ref a2, .int 0, .int 0, .int 0, .int 0, .int 0, .int (-1), .ref a1, .ref a3, .ref a4, .ref a5, .int 1, .int 0, .int 0, .int 0, .int 0, .ref a6])), (a1, .inl (cs 0, 45783, .inl (layF (fun _ => 0) 1)))] := hD
  refine W.widen (k := 0) (n := 0) (Nat.le_of_ble_eq_true rfl) (Nat.le_of_ble_eq_true rfl) ?_
  refine lv_istore_n (lv' := [(1, .int 0), (2, .int 17), (0, .ref a0)]) hx hb dX9_longestDelay_23 rfl hl (by decide) rfl (fun ls hl => ?_)
  refine lv_iinc (v := 18) (lv' := [(2, .int 18), (1, .int 0), (0, .ref a0)]) hx hb dX9_longestDelay_24 hl (k := 1) rfl (by decide) (by decide) rfl (fun ls hl => ?_)
  refine lv_goto (tgt := 4) hx hb dX9_longestDelay_27 (by decide) ?_
  refine lv_iload_n hx hb dX9_longestDelay_4 rfl (lv_at hl 0 rfl) ?_
  refine lv_bipush (v := 64) hx hb dX9_longestDelay_5 (by decide) ?_
  refine lv_icmp_ge (tgt := 30) hx hb dX9_longestDelay_7 (by decide) (fun c9 => absurd c9 (by decide)) (fun _ => ?_)
  refine lv_iload_n hx hb dX9_longestDelay_10 rfl (lv_at hl 1 rfl) ?_
  refine lv_aload_n hx hb dX9_longestDelay_11 rfl (lv_at hl 2 rfl) ?_
  refine va_get (D := D) (ci := 9) (v := .ref a1) (C := RX9) (T := TX9) (N := 18) hx hb hts iX9_longestDelay_9 hown hN.1 hP 0 rfl rfl 8 (by decide) (hts _ mX9_longestDelay_1) (fun _ h9 => h9) rfl dX9_longestDelay_12 ?_
  refine lv_bipush (v := 119) hx hb dX9_longestDelay_15 (by decide) ?_
  refine lv_iload_n hx hb dX9_longestDelay_17 rfl (lv_at hl 0 rfl) ?_
  refine lv_iadd hx hb dX9_longestDelay_18 ?_
  refine tp_i (137) (by decide) ?_
  refine ld_i (v := 0) hx hb hN hP 1 rfl (vin (by decide +kernel)) (by first | rfl | decide +kernel) dX9_longestDelay_19 ?_
  refine cs_i (As := [.int 0, .int 0]) (rest := []) (wr := [(a0, .inr (9, [.int 0, .ref a2, .int 0, .int 0, .int 0, .int 0, .int 0, .int (-1), .ref a1, .ref a3, .ref a4, .ref a5, .int 1, .int 0, .int 0, .int 0, .int 0, .ref a6])), (a1, .inl (cs 0, 45783, .inl (layF (fun _ => 0) 1)))]) ⟨hx, hb, hml, hown, hts⟩ (fun sz => k145_X9_max l D cs sz ) (va_cwS 2 hts gX9_longestDelay_X9_max rfl rfl rfl hdX9_max_o ⟨Nat.le_of_ble_eq_true rfl, Nat.le_of_ble_eq_true rfl⟩) hN hP hD hS hA [] [0, 1] rfl rfl rfl rfl (by decide) rfl rfl hl.1 (Nat.le_of_ble_eq_true rfl) dX9_longestDelay_20 (Nat.le_of_ble_eq_true rfl) (Nat.le_of_ble_eq_true rfl) (fun u18 H locs hP hD hS => ?_)
  have hP : va_P D vwCl [(a0, .inr (9, [.int 0, .ref a2, .int 0, .int 0, .int 0, .int 0, .int 0, .int (-1), .ref a1, .ref a3, .ref a4, .ref a5, .int 1, .int 0, .int 0, .int 0, .int 0, .ref a6])), (a1, .inl (cs 0, 45783, .inl (layF (fun _ => 0) 1)))] H := hP
  have hD : va_D A [(a0, .inr (9, [.int 0, .ref a2, .int 0, .int 0, .int 0, .int 0, .int 0, .int (-1), .ref a1, .ref a3, .ref a4, .ref a5, .int 1, .int 0, .int 0, .int 0, .int 0, .ref a6])), (a1, .inl (cs 0, 45783, .inl (layF (fun _ => 0) 1)))] := hD
  refine W.widen (k := 0) (n := 0) (Nat.le_of_ble_eq_true rfl) (Nat.le_of_ble_eq_true rfl) ?_
  refine lv_istore_n (lv' := [(1, .int 0), (2, .int 18), (0, .ref a0)]) hx hb dX9_longestDelay_23 rfl hl (by decide) rfl (fun ls hl => ?_)
  refine lv_iinc (v := 19) (lv' := [(2, .int 19), (1, .int 0), (0, .ref a0)]) hx hb dX9_longestDelay_24 hl (k := 1) rfl (by decide) (by decide) rfl (fun ls hl => ?_)
  refine lv_goto (tgt := 4) hx hb dX9_longestDelay_27 (by decide) ?_
  refine lv_iload_n hx hb dX9_longestDelay_4 rfl (lv_at hl 0 rfl) ?_
  refine lv_bipush (v := 64) hx hb dX9_longestDelay_5 (by decide) ?_
  refine lv_icmp_ge (tgt := 30) hx hb dX9_longestDelay_7 (by decide) (fun c9 => absurd c9 (by decide)) (fun _ => ?_)
  refine lv_iload_n hx hb dX9_longestDelay_10 rfl (lv_at hl 1 rfl) ?_
  refine lv_aload_n hx hb dX9_longestDelay_11 rfl (lv_at hl 2 rfl) ?_
  refine va_get (D := D) (ci := 9) (v := .ref a1) (C := RX9) (T := TX9) (N := 18) hx hb hts iX9_longestDelay_9 hown hN.1 hP 0 rfl rfl 8 (by decide) (hts _ mX9_longestDelay_1) (fun _ h9 => h9) rfl dX9_longestDelay_12 ?_
  refine lv_bipush (v := 119) hx hb dX9_longestDelay_15 (by decide) ?_
  refine lv_iload_n hx hb dX9_longestDelay_17 rfl (lv_at hl 0 rfl) ?_
  refine lv_iadd hx hb dX9_longestDelay_18 ?_
  refine tp_i (138) (by decide) ?_
  refine ld_i (v := 0) hx hb hN hP 1 rfl (vin (by decide +kernel)) (by first | rfl | decide +kernel) dX9_longestDelay_19 ?_
  refine cs_i (As := [.int 0, .int 0]) (rest := []) (wr := [(a0, .inr (9, [.int 0, .ref a2, .int 0, .int 0, .int 0, .int 0, .int 0, .int (-1), .ref a1, .ref a3, .ref a4, .ref a5, .int 1, .int 0, .int 0, .int 0, .int 0, .ref a6])), (a1, .inl (cs 0, 45783, .inl (layF (fun _ => 0) 1)))]) ⟨hx, hb, hml, hown, hts⟩ (fun sz => k145_X9_max l D cs sz ) (va_cwS 2 hts gX9_longestDelay_X9_max rfl rfl rfl hdX9_max_o ⟨Nat.le_of_ble_eq_true rfl, Nat.le_of_ble_eq_true rfl⟩) hN hP hD hS hA [] [0, 1] rfl rfl rfl rfl (by decide) rfl rfl hl.1 (Nat.le_of_ble_eq_true rfl) dX9_longestDelay_20 (Nat.le_of_ble_eq_true rfl) (Nat.le_of_ble_eq_true rfl) (fun u19 H locs hP hD hS => ?_)
  have hP : va_P D vwCl [(a0, .inr (9, [.int 0, .ref a2, .int 0, .int 0, .int 0, .int 0, .int 0, .int (-1), .ref a1, .ref a3, .ref a4, .ref a5, .int 1, .int 0, .int 0, .int 0, .int 0, .ref a6])), (a1, .inl (cs 0, 45783, .inl (layF (fun _ => 0) 1)))] H := hP
  have hD : va_D A [(a0, .inr (9, [.int 0, .ref a2, .int 0, .int 0, .int 0, .int 0, .int 0, .int (-1), .ref a1, .ref a3, .ref a4, .ref a5, .int 1, .int 0, .int 0, .int 0, .int 0, .ref a6])), (a1, .inl (cs 0, 45783, .inl (layF (fun _ => 0) 1)))] := hD
  refine W.widen (k := 0) (n := 0) (Nat.le_of_ble_eq_true rfl) (Nat.le_of_ble_eq_true rfl) ?_
  refine lv_istore_n (lv' := [(1, .int 0), (2, .int 19), (0, .ref a0)]) hx hb dX9_longestDelay_23 rfl hl (by decide) rfl (fun ls hl => ?_)
  refine lv_iinc (v := 20) (lv' := [(2, .int 20), (1, .int 0), (0, .ref a0)]) hx hb dX9_longestDelay_24 hl (k := 1) rfl (by decide) (by decide) rfl (fun ls hl => ?_)
  refine lv_goto (tgt := 4) hx hb dX9_longestDelay_27 (by decide) ?_
  refine lv_iload_n hx hb dX9_longestDelay_4 rfl (lv_at hl 0 rfl) ?_
  refine lv_bipush (v := 64) hx hb dX9_longestDelay_5 (by decide) ?_
  refine lv_icmp_ge (tgt := 30) hx hb dX9_longestDelay_7 (by decide) (fun c9 => absurd c9 (by decide)) (fun _ => ?_)
  refine lv_iload_n hx hb dX9_longestDelay_10 rfl (lv_at hl 1 rfl) ?_
  refine lv_aload_n hx hb dX9_longestDelay_11 rfl (lv_at hl 2 rfl) ?_
  refine va_get (D := D) (ci := 9) (v := .ref a1) (C := RX9) (T := TX9) (N := 18) hx hb hts iX9_longestDelay_9 hown hN.1 hP 0 rfl rfl 8 (by decide) (hts _ mX9_longestDelay_1) (fun _ h9 => h9) rfl dX9_longestDelay_12 ?_
  refine lv_bipush (v := 119) hx hb dX9_longestDelay_15 (by decide) ?_
  refine lv_iload_n hx hb dX9_longestDelay_17 rfl (lv_at hl 0 rfl) ?_
  refine lv_iadd hx hb dX9_longestDelay_18 ?_
  refine tp_i (139) (by decide) ?_
  refine ld_i (v := 0) hx hb hN hP 1 rfl (vin (by decide +kernel)) (by first | rfl | decide +kernel) dX9_longestDelay_19 ?_
  refine cs_i (As := [.int 0, .int 0]) (rest := []) (wr := [(a0, .inr (9, [.int 0, .ref a2, .int 0, .int 0, .int 0, .int 0, .int 0, .int (-1), .ref a1, .ref a3, .ref a4, .ref a5, .int 1, .int 0, .int 0, .int 0, .int 0, .ref a6])), (a1, .inl (cs 0, 45783, .inl (layF (fun _ => 0) 1)))]) ⟨hx, hb, hml, hown, hts⟩ (fun sz => k145_X9_max l D cs sz ) (va_cwS 2 hts gX9_longestDelay_X9_max rfl rfl rfl hdX9_max_o ⟨Nat.le_of_ble_eq_true rfl, Nat.le_of_ble_eq_true rfl⟩) hN hP hD hS hA [] [0, 1] rfl rfl rfl rfl (by decide) rfl rfl hl.1 (Nat.le_of_ble_eq_true rfl) dX9_longestDelay_20 (Nat.le_of_ble_eq_true rfl) (Nat.le_of_ble_eq_true rfl) (fun u20 H locs hP hD hS => ?_)
  have hP : va_P D vwCl [(a0, .inr (9, [.int 0, .ref a2, .int 0, .int 0, .int 0, .int 0, .int 0, .int (-1), .ref a1, .ref a3, .ref a4, .ref a5, .int 1, .int 0, .int 0, .int 0, .int 0, .ref a6])), (a1, .inl (cs 0, 45783, .inl (layF (fun _ => 0) 1)))] H := hP
  have hD : va_D A [(a0, .inr (9, [.int 0, .ref a2, .int 0, .int 0, .int 0, .int 0, .int 0, .int (-1), .ref a1, .ref a3, .ref a4, .ref a5, .int 1, .int 0, .int 0, .int 0, .int 0, .ref a6])), (a1, .inl (cs 0, 45783, .inl (layF (fun _ => 0) 1)))] := hD
  refine W.widen (k := 0) (n := 0) (Nat.le_of_ble_eq_true rfl) (Nat.le_of_ble_eq_true rfl) ?_
  refine lv_istore_n (lv' := [(1, .int 0), (2, .int 20), (0, .ref a0)]) hx hb dX9_longestDelay_23 rfl hl (by decide) rfl (fun ls hl => ?_)
  refine lv_iinc (v := 21) (lv' := [(2, .int 21), (1, .int 0), (0, .ref a0)]) hx hb dX9_longestDelay_24 hl (k := 1) rfl (by decide) (by decide) rfl (fun ls hl => ?_)
  refine lv_goto (tgt := 4) hx hb dX9_longestDelay_27 (by decide) ?_
  refine lv_iload_n hx hb dX9_longestDelay_4 rfl (lv_at hl 0 rfl) ?_
  refine lv_bipush (v := 64) hx hb dX9_longestDelay_5 (by decide) ?_
  refine lv_icmp_ge (tgt := 30) hx hb dX9_longestDelay_7 (by decide) (fun c9 => absurd c9 (by decide)) (fun _ => ?_)
  refine lv_iload_n hx hb dX9_longestDelay_10 rfl (lv_at hl 1 rfl) ?_
  refine lv_aload_n hx hb dX9_longestDelay_11 rfl (lv_at hl 2 rfl) ?_
  refine va_get (D := D) (ci := 9) (v := .ref a1) (C := RX9) (T := TX9) (N := 18) hx hb hts iX9_longestDelay_9 hown hN.1 hP 0 rfl rfl 8 (by decide) (hts _ mX9_longestDelay_1) (fun _ h9 => h9) rfl dX9_longestDelay_12 ?_
  refine lv_bipush (v := 119) hx hb dX9_longestDelay_15 (by decide) ?_
  refine lv_iload_n hx hb dX9_longestDelay_17 rfl (lv_at hl 0 rfl) ?_
  refine lv_iadd hx hb dX9_longestDelay_18 ?_
  refine tp_i (140) (by decide) ?_
  refine ld_i (v := 0) hx hb hN hP 1 rfl (vin (by decide +kernel)) (by first | rfl | decide +kernel) dX9_longestDelay_19 ?_
  refine cs_i (As := [.int 0, .int 0]) (rest := []) (wr := [(a0, .inr (9, [.int 0, .ref a2, .int 0, .int 0, .int 0, .int 0, .int 0, .int (-1), .ref a1, .ref a3, .ref a4, .ref a5, .int 1, .int 0, .int 0, .int 0, .int 0, .ref a6])), (a1, .inl (cs 0, 45783, .inl (layF (fun _ => 0) 1)))]) ⟨hx, hb, hml, hown, hts⟩ (fun sz => k145_X9_max l D cs sz ) (va_cwS 2 hts gX9_longestDelay_X9_max rfl rfl rfl hdX9_max_o ⟨Nat.le_of_ble_eq_true rfl, Nat.le_of_ble_eq_true rfl⟩) hN hP hD hS hA [] [0, 1] rfl rfl rfl rfl (by decide) rfl rfl hl.1 (Nat.le_of_ble_eq_true rfl) dX9_longestDelay_20 (Nat.le_of_ble_eq_true rfl) (Nat.le_of_ble_eq_true rfl) (fun u21 H locs hP hD hS => ?_)
  have hP : va_P D vwCl [(a0, .inr (9, [.int 0, .ref a2, .int 0, .int 0, .int 0, .int 0, .int 0, .int (-1), .ref a1, .ref a3, .ref a4, .ref a5, .int 1, .int 0, .int 0, .int 0, .int 0, .ref a6])), (a1, .inl (cs 0, 45783, .inl (layF (fun _ => 0) 1)))] H := hP
  have hD : va_D A [(a0, .inr (9, [.int 0, .ref a2, .int 0, .int 0, .int 0, .int 0, .int 0, .int (-1), .ref a1, .ref a3, .ref a4, .ref a5, .int 1, .int 0, .int 0, .int 0, .int 0, .ref a6])), (a1, .inl (cs 0, 45783, .inl (layF (fun _ => 0) 1)))] := hD
  refine W.widen (k := 0) (n := 0) (Nat.le_of_ble_eq_true rfl) (Nat.le_of_ble_eq_true rfl) ?_
  refine lv_istore_n (lv' := [(1, .int 0), (2, .int 21), (0, .ref a0)]) hx hb dX9_longestDelay_23 rfl hl (by decide) rfl (fun ls hl => ?_)
  refine lv_iinc (v := 22) (lv' := [(2, .int 22), (1, .int 0), (0, .ref a0)]) hx hb dX9_longestDelay_24 hl (k := 1) rfl (by decide) (by decide) rfl (fun ls hl => ?_)
  refine lv_goto (tgt := 4) hx hb dX9_longestDelay_27 (by decide) ?_
  refine lv_iload_n hx hb dX9_longestDelay_4 rfl (lv_at hl 0 rfl) ?_
  refine lv_bipush (v := 64) hx hb dX9_longestDelay_5 (by decide) ?_
  refine lv_icmp_ge (tgt := 30) hx hb dX9_longestDelay_7 (by decide) (fun c9 => absurd c9 (by decide)) (fun _ => ?_)
  refine lv_iload_n hx hb dX9_longestDelay_10 rfl (lv_at hl 1 rfl) ?_
  refine lv_aload_n hx hb dX9_longestDelay_11 rfl (lv_at hl 2 rfl) ?_
  refine va_get (D := D) (ci := 9) (v := .ref a1) (C := RX9) (T := TX9) (N := 18) hx hb hts iX9_longestDelay_9 hown hN.1 hP 0 rfl rfl 8 (by decide) (hts _ mX9_longestDelay_1) (fun _ h9 => h9) rfl dX9_longestDelay_12 ?_
  refine lv_bipush (v := 119) hx hb dX9_longestDelay_15 (by decide) ?_
  refine lv_iload_n hx hb dX9_longestDelay_17 rfl (lv_at hl 0 rfl) ?_
  refine lv_iadd hx hb dX9_longestDelay_18 ?_
  refine tp_i (141) (by decide) ?_
  refine ld_i (v := 0) hx hb hN hP 1 rfl (vin (by decide +kernel)) (by first | rfl | decide +kernel) dX9_longestDelay_19 ?_
  refine cs_i (As := [.int 0, .int 0]) (rest := []) (wr := [(a0, .inr (9, [.int 0, .ref a2, .int 0, .int 0, .int 0, .int 0, .int 0, .int (-1), .ref a1, .ref a3, .ref a4, .ref a5, .int 1, .int 0, .int 0, .int 0, .int 0, .ref a6])), (a1, .inl (cs 0, 45783, .inl (layF (fun _ => 0) 1)))]) ⟨hx, hb, hml, hown, hts⟩ (fun sz => k145_X9_max l D cs sz ) (va_cwS 2 hts gX9_longestDelay_X9_max rfl rfl rfl hdX9_max_o ⟨Nat.le_of_ble_eq_true rfl, Nat.le_of_ble_eq_true rfl⟩) hN hP hD hS hA [] [0, 1] rfl rfl rfl rfl (by decide) rfl rfl hl.1 (Nat.le_of_ble_eq_true rfl) dX9_longestDelay_20 (Nat.le_of_ble_eq_true rfl) (Nat.le_of_ble_eq_true rfl) (fun u22 H locs hP hD hS => ?_)
  have hP : va_P D vwCl [(a0, .inr (9, [.int 0, .ref a2, .int 0, .int 0, .int 0, .int 0, .int 0, .int (-1), .ref a1, .ref a3, .ref a4, .ref a5, .int 1, .int 0, .int 0, .int 0, .int 0, .ref a6])), (a1, .inl (cs 0, 45783, .inl (layF (fun _ => 0) 1)))] H := hP
  have hD : va_D A [(a0, .inr (9, [.int 0, .ref a2, .int 0, .int 0, .int 0, .int 0, .int 0, .int (-1), .ref a1, .ref a3, .ref a4, .ref a5, .int 1, .int 0, .int 0, .int 0, .int 0, .ref a6])), (a1, .inl (cs 0, 45783, .inl (layF (fun _ => 0) 1)))] := hD
  refine W.widen (k := 0) (n := 0) (Nat.le_of_ble_eq_true rfl) (Nat.le_of_ble_eq_true rfl) ?_
  refine lv_istore_n (lv' := [(1, .int 0), (2, .int 22), (0, .ref a0)]) hx hb dX9_longestDelay_23 rfl hl (by decide) rfl (fun ls hl => ?_)
  refine lv_iinc (v := 23) (lv' := [(2, .int 23), (1, .int 0), (0, .ref a0)]) hx hb dX9_longestDelay_24 hl (k := 1) rfl (by decide) (by decide) rfl (fun ls hl => ?_)
  refine lv_goto (tgt := 4) hx hb dX9_longestDelay_27 (by decide) ?_
  refine lv_iload_n hx hb dX9_longestDelay_4 rfl (lv_at hl 0 rfl) ?_
  refine lv_bipush (v := 64) hx hb dX9_longestDelay_5 (by decide) ?_
  refine lv_icmp_ge (tgt := 30) hx hb dX9_longestDelay_7 (by decide) (fun c9 => absurd c9 (by decide)) (fun _ => ?_)
  refine lv_iload_n hx hb dX9_longestDelay_10 rfl (lv_at hl 1 rfl) ?_
  refine lv_aload_n hx hb dX9_longestDelay_11 rfl (lv_at hl 2 rfl) ?_
  refine va_get (D := D) (ci := 9) (v := .ref a1) (C := RX9) (T := TX9) (N := 18) hx hb hts iX9_longestDelay_9 hown hN.1 hP 0 rfl rfl 8 (by decide) (hts _ mX9_longestDelay_1) (fun _ h9 => h9) rfl dX9_longestDelay_12 ?_
  refine lv_bipush (v := 119) hx hb dX9_longestDelay_15 (by decide) ?_
  refine lv_iload_n hx hb dX9_longestDelay_17 rfl (lv_at hl 0 rfl) ?_
  refine lv_iadd hx hb dX9_longestDelay_18 ?_
  refine tp_i (142) (by decide) ?_
  refine ld_i (v := 0) hx hb hN hP 1 rfl (vin (by decide +kernel)) (by first | rfl | decide +kernel) dX9_longestDelay_19 ?_
  refine cs_i (As := [.int 0, .int 0]) (rest := []) (wr := [(a0, .inr (9, [.int 0, .ref a2, .int 0, .int 0, .int 0, .int 0, .int 0, .int (-1), .ref a1, .ref a3, .ref a4, .ref a5, .int 1, .int 0, .int 0, .int 0, .int 0, .ref a6])), (a1, .inl (cs 0, 45783, .inl (layF (fun _ => 0) 1)))]) ⟨hx, hb, hml, hown, hts⟩ (fun sz => k145_X9_max l D cs sz ) (va_cwS 2 hts gX9_longestDelay_X9_max rfl rfl rfl hdX9_max_o ⟨Nat.le_of_ble_eq_true rfl, Nat.le_of_ble_eq_true rfl⟩) hN hP hD hS hA [] [0, 1] rfl rfl rfl rfl (by decide) rfl rfl hl.1 (Nat.le_of_ble_eq_true rfl) dX9_longestDelay_20 (Nat.le_of_ble_eq_true rfl) (Nat.le_of_ble_eq_true rfl) (fun u23 H locs hP hD hS => ?_)
  have hP : va_P D vwCl [(a0, .inr (9, [.int 0, .ref a2, .int 0, .int 0, .int 0, .int 0, .int 0, .int (-1), .ref a1, .ref a3, .ref a4, .ref a5, .int 1, .int 0, .int 0, .int 0, .int 0, .ref a6])), (a1, .inl (cs 0, 45783, .inl (layF (fun _ => 0) 1)))] H := hP
  have hD : va_D A [(a0, .inr (9, [.int 0, .ref a2, .int 0, .int 0, .int 0, .int 0, .int 0, .int (-1), .ref a1, .ref a3, .ref a4, .ref a5, .int 1, .int 0, .int 0, .int 0, .int 0, .ref a6])), (a1, .inl (cs 0, 45783, .inl (layF (fun _ => 0) 1)))] := hD
  refine W.widen (k := 0) (n := 0) (Nat.le_of_ble_eq_true rfl) (Nat.le_of_ble_eq_true rfl) ?_
  refine lv_istore_n (lv' := [(1, .int 0), (2, .int 23), (0, .ref a0)]) hx hb dX9_longestDelay_23 rfl hl (by decide) rfl (fun ls hl => ?_)
  refine lv_iinc (v := 24) (lv' := [(2, .int 24), (1, .int 0), (0, .ref a0)]) hx hb dX9_longestDelay_24 hl (k := 1) rfl (by decide) (by decide) rfl (fun ls hl => ?_)
  refine lv_goto (tgt := 4) hx hb dX9_longestDelay_27 (by decide) ?_
  refine lv_iload_n hx hb dX9_longestDelay_4 rfl (lv_at hl 0 rfl) ?_
  refine lv_bipush (v := 64) hx hb dX9_longestDelay_5 (by decide) ?_
  refine lv_icmp_ge (tgt := 30) hx hb dX9_longestDelay_7 (by decide) (fun c9 => absurd c9 (by decide)) (fun _ => ?_)
  refine lv_iload_n hx hb dX9_longestDelay_10 rfl (lv_at hl 1 rfl) ?_
  refine lv_aload_n hx hb dX9_longestDelay_11 rfl (lv_at hl 2 rfl) ?_
  refine va_get (D := D) (ci := 9) (v := .ref a1) (C := RX9) (T := TX9) (N := 18) hx hb hts iX9_longestDelay_9 hown hN.1 hP 0 rfl rfl 8 (by decide) (hts _ mX9_longestDelay_1) (fun _ h9 => h9) rfl dX9_longestDelay_12 ?_
  refine lv_bipush (v := 119) hx hb dX9_longestDelay_15 (by decide) ?_
  refine lv_iload_n hx hb dX9_longestDelay_17 rfl (lv_at hl 0 rfl) ?_
  refine lv_iadd hx hb dX9_longestDelay_18 ?_
  refine tp_i (143) (by decide) ?_
  refine ld_i (v := 0) hx hb hN hP 1 rfl (vin (by decide +kernel)) (by first | rfl | decide +kernel) dX9_longestDelay_19 ?_
  refine cs_i (As := [.int 0, .int 0]) (rest := []) (wr := [(a0, .inr (9, [.int 0, .ref a2, .int 0, .int 0, .int 0, .int 0, .int 0, .int (-1), .ref a1, .ref a3, .ref a4, .ref a5, .int 1, .int 0, .int 0, .int 0, .int 0, .ref a6])), (a1, .inl (cs 0, 45783, .inl (layF (fun _ => 0) 1)))]) ⟨hx, hb, hml, hown, hts⟩ (fun sz => k145_X9_max l D cs sz ) (va_cwS 2 hts gX9_longestDelay_X9_max rfl rfl rfl hdX9_max_o ⟨Nat.le_of_ble_eq_true rfl, Nat.le_of_ble_eq_true rfl⟩) hN hP hD hS hA [] [0, 1] rfl rfl rfl rfl (by decide) rfl rfl hl.1 (Nat.le_of_ble_eq_true rfl) dX9_longestDelay_20 (Nat.le_of_ble_eq_true rfl) (Nat.le_of_ble_eq_true rfl) (fun u24 H locs hP hD hS => ?_)
  have hP : va_P D vwCl [(a0, .inr (9, [.int 0, .ref a2, .int 0, .int 0, .int 0, .int 0, .int 0, .int (-1), .ref a1, .ref a3, .ref a4, .ref a5, .int 1, .int 0, .int 0, .int 0, .int 0, .ref a6])), (a1, .inl (cs 0, 45783, .inl (layF (fun _ => 0) 1)))] H := hP
  have hD : va_D A [(a0, .inr (9, [.int 0, .ref a2, .int 0, .int 0, .int 0, .int 0, .int 0, .int (-1), .ref a1, .ref a3, .ref a4, .ref a5, .int 1, .int 0, .int 0, .int 0, .int 0, .ref a6])), (a1, .inl (cs 0, 45783, .inl (layF (fun _ => 0) 1)))] := hD
  refine W.widen (k := 0) (n := 0) (Nat.le_of_ble_eq_true rfl) (Nat.le_of_ble_eq_true rfl) ?_
  refine lv_istore_n (lv' := [(1, .int 0), (2, .int 24), (0, .ref a0)]) hx hb dX9_longestDelay_23 rfl hl (by decide) rfl (fun ls hl => ?_)
  refine lv_iinc (v := 25) (lv' := [(2, .int 25), (1, .int 0), (0, .ref a0)]) hx hb dX9_longestDelay_24 hl (k := 1) rfl (by decide) (by decide) rfl (fun ls hl => ?_)
  refine lv_goto (tgt := 4) hx hb dX9_longestDelay_27 (by decide) ?_
  refine lv_iload_n hx hb dX9_longestDelay_4 rfl (lv_at hl 0 rfl) ?_
  refine lv_bipush (v := 64) hx hb dX9_longestDelay_5 (by decide) ?_
  refine lv_icmp_ge (tgt := 30) hx hb dX9_longestDelay_7 (by decide) (fun c9 => absurd c9 (by decide)) (fun _ => ?_)
  refine lv_iload_n hx hb dX9_longestDelay_10 rfl (lv_at hl 1 rfl) ?_
  refine lv_aload_n hx hb dX9_longestDelay_11 rfl (lv_at hl 2 rfl) ?_
  refine va_get (D := D) (ci := 9) (v := .ref a1) (C := RX9) (T := TX9) (N := 18) hx hb hts iX9_longestDelay_9 hown hN.1 hP 0 rfl rfl 8 (by decide) (hts _ mX9_longestDelay_1) (fun _ h9 => h9) rfl dX9_longestDelay_12 ?_
  refine lv_bipush (v := 119) hx hb dX9_longestDelay_15 (by decide) ?_
  refine lv_iload_n hx hb dX9_longestDelay_17 rfl (lv_at hl 0 rfl) ?_
  refine lv_iadd hx hb dX9_longestDelay_18 ?_
  refine tp_i (144) (by decide) ?_
  refine ld_i (v := 0) hx hb hN hP 1 rfl (vin (by decide +kernel)) (by first | rfl | decide +kernel) dX9_longestDelay_19 ?_
  refine cs_i (As := [.int 0, .int 0]) (rest := []) (wr := [(a0, .inr (9, [.int 0, .ref a2, .int 0, .int 0, .int 0, .int 0, .int 0, .int (-1), .ref a1, .ref a3, .ref a4, .ref a5, .int 1, .int 0, .int 0, .int 0, .int 0, .ref a6])), (a1, .inl (cs 0, 45783, .inl (layF (fun _ => 0) 1)))]) ⟨hx, hb, hml, hown, hts⟩ (fun sz => k145_X9_max l D cs sz ) (va_cwS 2 hts gX9_longestDelay_X9_max rfl rfl rfl hdX9_max_o ⟨Nat.le_of_ble_eq_true rfl, Nat.le_of_ble_eq_true rfl⟩) hN hP hD hS hA [] [0, 1] rfl rfl rfl rfl (by decide) rfl rfl hl.1 (Nat.le_of_ble_eq_true rfl) dX9_longestDelay_20 (Nat.le_of_ble_eq_true rfl) (Nat.le_of_ble_eq_true rfl) (fun u25 H locs hP hD hS => ?_)
  have hP : va_P D vwCl [(a0, .inr (9, [.int 0, .ref a2, .int 0, .int 0, .int 0, .int 0, .int 0, .int (-1), .ref a1, .ref a3, .ref a4, .ref a5, .int 1, .int 0, .int 0, .int 0, .int 0, .ref a6])), (a1, .inl (cs 0, 45783, .inl (layF (fun _ => 0) 1)))] H := hP
  have hD : va_D A [(a0, .inr (9, [.int 0, .ref a2, .int 0, .int 0, .int 0, .int 0, .int 0, .int (-1), .ref a1, .ref a3, .ref a4, .ref a5, .int 1, .int 0, .int 0, .int 0, .int 0, .ref a6])), (a1, .inl (cs 0, 45783, .inl (layF (fun _ => 0) 1)))] := hD
  refine W.widen (k := 0) (n := 0) (Nat.le_of_ble_eq_true rfl) (Nat.le_of_ble_eq_true rfl) ?_
  refine lv_istore_n (lv' := [(1, .int 0), (2, .int 25), (0, .ref a0)]) hx hb dX9_longestDelay_23 rfl hl (by decide) rfl (fun ls hl => ?_)
  refine lv_iinc (v := 26) (lv' := [(2, .int 26), (1, .int 0), (0, .ref a0)]) hx hb dX9_longestDelay_24 hl (k := 1) rfl (by decide) (by decide) rfl (fun ls hl => ?_)
  refine lv_goto (tgt := 4) hx hb dX9_longestDelay_27 (by decide) ?_
  refine lv_iload_n hx hb dX9_longestDelay_4 rfl (lv_at hl 0 rfl) ?_
  refine lv_bipush (v := 64) hx hb dX9_longestDelay_5 (by decide) ?_
  refine lv_icmp_ge (tgt := 30) hx hb dX9_longestDelay_7 (by decide) (fun c9 => absurd c9 (by decide)) (fun _ => ?_)
  refine lv_iload_n hx hb dX9_longestDelay_10 rfl (lv_at hl 1 rfl) ?_
  refine lv_aload_n hx hb dX9_longestDelay_11 rfl (lv_at hl 2 rfl) ?_
  refine va_get (D := D) (ci := 9) (v := .ref a1) (C := RX9) (T := TX9) (N := 18) hx hb hts iX9_longestDelay_9 hown hN.1 hP 0 rfl rfl 8 (by decide) (hts _ mX9_longestDelay_1) (fun _ h9 => h9) rfl dX9_longestDelay_12 ?_
  refine lv_bipush (v := 119) hx hb dX9_longestDelay_15 (by decide) ?_
  refine lv_iload_n hx hb dX9_longestDelay_17 rfl (lv_at hl 0 rfl) ?_
  refine lv_iadd hx hb dX9_longestDelay_18 ?_
  refine tp_i (145) (by decide) ?_
  refine ld_i (v := 0) hx hb hN hP 1 rfl (vin (by decide +kernel)) (by first | rfl | decide +kernel) dX9_longestDelay_19 ?_
  refine cs_i (As := [.int 0, .int 0]) (rest := []) (wr := [(a0, .inr (9, [.int 0, .ref a2, .int 0, .int 0, .int 0, .int 0, .int 0, .int (-1), .ref a1, .ref a3, .ref a4, .ref a5, .int 1, .int 0, .int 0, .int 0, .int 0, .ref a6])), (a1, .inl (cs 0, 45783, .inl (layF (fun _ => 0) 1)))]) ⟨hx, hb, hml, hown, hts⟩ (fun sz => k145_X9_max l D cs sz ) (va_cwS 2 hts gX9_longestDelay_X9_max rfl rfl rfl hdX9_max_o ⟨Nat.le_of_ble_eq_true rfl, Nat.le_of_ble_eq_true rfl⟩) hN hP hD hS hA [] [0, 1] rfl rfl rfl rfl (by decide) rfl rfl hl.1 (Nat.le_of_ble_eq_true rfl) dX9_longestDelay_20 (Nat.le_of_ble_eq_true rfl) (Nat.le_of_ble_eq_true rfl) (fun u26 H locs hP hD hS => ?_)
  have hP : va_P D vwCl [(a0, .inr (9, [.int 0, .ref a2, .int 0, .int 0, .int 0, .int 0, .int 0, .int (-1), .ref a1, .ref a3, .ref a4, .ref a5, .int 1, .int 0, .int 0, .int 0, .int 0, .ref a6])), (a1, .inl (cs 0, 45783, .inl (layF (fun _ => 0) 1)))] H := hP
  have hD : va_D A [(a0, .inr (9, [.int 0, .ref a2, .int 0, .int 0, .int 0, .int 0, .int 0, .int (-1), .ref a1, .ref a3, .ref a4, .ref a5, .int 1, .int 0, .int 0, .int 0, .int 0, .ref a6])), (a1, .inl (cs 0, 45783, .inl (layF (fun _ => 0) 1)))] := hD
  refine W.widen (k := 0) (n := 0) (Nat.le_of_ble_eq_true rfl) (Nat.le_of_ble_eq_true rfl) ?_
  refine lv_istore_n (lv' := [(1, .int 0), (2, .int 26), (0, .ref a0)]) hx hb dX9_longestDelay_23 rfl hl (by decide) rfl (fun ls hl => ?_)
  refine lv_iinc (v := 27) (lv' := [(2, .int 27), (1, .int 0), (0, .ref a0)]) hx hb dX9_longestDelay_24 hl (k := 1) rfl (by decide) (by decide) rfl (fun ls hl => ?_)
  refine lv_goto (tgt := 4) hx hb dX9_longestDelay_27 (by decide) ?_
  refine lv_iload_n hx hb dX9_longestDelay_4 rfl (lv_at hl 0 rfl) ?_
  refine lv_bipush (v := 64) hx hb dX9_longestDelay_5 (by decide) ?_
  refine lv_icmp_ge (tgt := 30) hx hb dX9_longestDelay_7 (by decide) (fun c9 => absurd c9 (by decide)) (fun _ => ?_)
  refine lv_iload_n hx hb dX9_longestDelay_10 rfl (lv_at hl 1 rfl) ?_
  refine lv_aload_n hx hb dX9_longestDelay_11 rfl (lv_at hl 2 rfl) ?_
  refine va_get (D := D) (ci := 9) (v := .ref a1) (C := RX9) (T := TX9) (N := 18) hx hb hts iX9_longestDelay_9 hown hN.1 hP 0 rfl rfl 8 (by decide) (hts _ mX9_longestDelay_1) (fun _ h9 => h9) rfl dX9_longestDelay_12 ?_
  refine lv_bipush (v := 119) hx hb dX9_longestDelay_15 (by decide) ?_
  refine lv_iload_n hx hb dX9_longestDelay_17 rfl (lv_at hl 0 rfl) ?_
  refine lv_iadd hx hb dX9_longestDelay_18 ?_
  refine tp_i (146) (by decide) ?_
  refine ld_i (v := 0) hx hb hN hP 1 rfl (vin (by decide +kernel)) (by first | rfl | decide +kernel) dX9_longestDelay_19 ?_
  refine cs_i (As := [.int 0, .int 0]) (rest := []) (wr := [(a0, .inr (9, [.int 0, .ref a2, .int 0, .int 0, .int 0, .int 0, .int 0, .int (-1), .ref a1, .ref a3, .ref a4, .ref a5, .int 1, .int 0, .int 0, .int 0, .int 0, .ref a6])), (a1, .inl (cs 0, 45783, .inl (layF (fun _ => 0) 1)))]) ⟨hx, hb, hml, hown, hts⟩ (fun sz => k145_X9_max l D cs sz ) (va_cwS 2 hts gX9_longestDelay_X9_max rfl rfl rfl hdX9_max_o ⟨Nat.le_of_ble_eq_true rfl, Nat.le_of_ble_eq_true rfl⟩) hN hP hD hS hA [] [0, 1] rfl rfl rfl rfl (by decide) rfl rfl hl.1 (Nat.le_of_ble_eq_true rfl) dX9_longestDelay_20 (Nat.le_of_ble_eq_true rfl) (Nat.le_of_ble_eq_true rfl) (fun u27 H locs hP hD hS => ?_)
  have hP : va_P D vwCl [(a0, .inr (9, [.int 0, .ref a2, .int 0, .int 0, .int 0, .int 0, .int 0, .int (-1), .ref a1, .ref a3, .ref a4, .ref a5, .int 1, .int 0, .int 0, .int 0, .int 0, .ref a6])), (a1, .inl (cs 0, 45783, .inl (layF (fun _ => 0) 1)))] H := hP
  have hD : va_D A [(a0, .inr (9, [.int 0, .ref a2, .int 0, .int 0, .int 0, .int 0, .int 0, .int (-1), .ref a1, .ref a3, .ref a4, .ref a5, .int 1, .int 0, .int 0, .int 0, .int 0, .ref a6])), (a1, .inl (cs 0, 45783, .inl (layF (fun _ => 0) 1)))] := hD
  refine W.widen (k := 0) (n := 0) (Nat.le_of_ble_eq_true rfl) (Nat.le_of_ble_eq_true rfl) ?_
  refine lv_istore_n (lv' := [(1, .int 0), (2, .int 27), (0, .ref a0)]) hx hb dX9_longestDelay_23 rfl hl (by decide) rfl (fun ls hl => ?_)
  refine lv_iinc (v := 28) (lv' := [(2, .int 28), (1, .int 0), (0, .ref a0)]) hx hb dX9_longestDelay_24 hl (k := 1) rfl (by decide) (by decide) rfl (fun ls hl => ?_)
  refine lv_goto (tgt := 4) hx hb dX9_longestDelay_27 (by decide) ?_
  refine lv_iload_n hx hb dX9_longestDelay_4 rfl (lv_at hl 0 rfl) ?_
  refine lv_bipush (v := 64) hx hb dX9_longestDelay_5 (by decide) ?_
  refine lv_icmp_ge (tgt := 30) hx hb dX9_longestDelay_7 (by decide) (fun c9 => absurd c9 (by decide)) (fun _ => ?_)
  refine lv_iload_n hx hb dX9_longestDelay_10 rfl (lv_at hl 1 rfl) ?_
  refine lv_aload_n hx hb dX9_longestDelay_11 rfl (lv_at hl 2 rfl) ?_
  refine va_get (D := D) (ci := 9) (v := .ref a1) (C := RX9) (T := TX9) (N := 18) hx hb hts iX9_longestDelay_9 hown hN.1 hP 0 rfl rfl 8 (by decide) (hts _ mX9_longestDelay_1) (fun _ h9 => h9) rfl dX9_longestDelay_12 ?_
  refine lv_bipush (v := 119) hx hb dX9_longestDelay_15 (by decide) ?_
  refine lv_iload_n hx hb dX9_longestDelay_17 rfl (lv_at hl 0 rfl) ?_
  refine lv_iadd hx hb dX9_longestDelay_18 ?_
  refine tp_i (147) (by decide) ?_
  refine ld_i (v := 0) hx hb hN hP 1 rfl (vin (by decide +kernel)) (by first | rfl | decide +kernel) dX9_longestDelay_19 ?_
  refine cs_i (As := [.int 0, .int 0]) (rest := []) (wr := [(a0, .inr (9, [.int 0, .ref a2, .int 0, .int 0, .int 0, .int 0, .int 0, .int (-1), .ref a1, .ref a3, .ref a4, .ref a5, .int 1, .int 0, .int 0, .int 0, .int 0, .ref a6])), (a1, .inl (cs 0, 45783, .inl (layF (fun _ => 0) 1)))]) ⟨hx, hb, hml, hown, hts⟩ (fun sz => k145_X9_max l D cs sz ) (va_cwS 2 hts gX9_longestDelay_X9_max rfl rfl rfl hdX9_max_o ⟨Nat.le_of_ble_eq_true rfl, Nat.le_of_ble_eq_true rfl⟩) hN hP hD hS hA [] [0, 1] rfl rfl rfl rfl (by decide) rfl rfl hl.1 (Nat.le_of_ble_eq_true rfl) dX9_longestDelay_20 (Nat.le_of_ble_eq_true rfl) (Nat.le_of_ble_eq_true rfl) (fun u28 H locs hP hD hS => ?_)
  have hP : va_P D vwCl [(a0, .inr (9, [.int 0, .ref a2, .int 0, .int 0, .int 0, .int 0, .int 0, .int (-1), .ref a1, .ref a3, .ref a4, .ref a5, .int 1, .int 0, .int 0, .int 0, .int 0, .ref a6])), (a1, .inl (cs 0, 45783, .inl (layF (fun _ => 0) 1)))] H := hP
  have hD : va_D A [(a0, .inr (9, [.int 0, .ref a2, .int 0, .int 0, .int 0, .int 0, .int 0, .int (-1), .ref a1, .ref a3, .ref a4, .ref a5, .int 1, .int 0, .int 0, .int 0, .int 0, .ref a6])), (a1, .inl (cs 0, 45783, .inl (layF (fun _ => 0) 1)))] := hD
  refine W.widen (k := 0) (n := 0) (Nat.le_of_ble_eq_true rfl) (Nat.le_of_ble_eq_true rfl) ?_
  refine lv_istore_n (lv' := [(1, .int 0), (2, .int 28), (0, .ref a0)]) hx hb dX9_longestDelay_23 rfl hl (by decide) rfl (fun ls hl => ?_)
  refine lv_iinc (v := 29) (lv' := [(2, .int 29), (1, .int 0), (0, .ref a0)]) hx hb dX9_longestDelay_24 hl (k := 1) rfl (by decide) (by decide) rfl (fun ls hl => ?_)
  refine lv_goto (tgt := 4) hx hb dX9_longestDelay_27 (by decide) ?_
  refine lv_iload_n hx hb dX9_longestDelay_4 rfl (lv_at hl 0 rfl) ?_
  refine lv_bipush (v := 64) hx hb dX9_longestDelay_5 (by decide) ?_
  refine lv_icmp_ge (tgt := 30) hx hb dX9_longestDelay_7 (by decide) (fun c9 => absurd c9 (by decide)) (fun _ => ?_)
  refine lv_iload_n hx hb dX9_longestDelay_10 rfl (lv_at hl 1 rfl) ?_
  refine lv_aload_n hx hb dX9_longestDelay_11 rfl (lv_at hl 2 rfl) ?_
  refine va_get (D := D) (ci := 9) (v := .ref a1) (C := RX9) (T := TX9) (N := 18) hx hb hts iX9_longestDelay_9 hown hN.1 hP 0 rfl rfl 8 (by decide) (hts _ mX9_longestDelay_1) (fun _ h9 => h9) rfl dX9_longestDelay_12 ?_
  refine lv_bipush (v := 119) hx hb dX9_longestDelay_15 (by decide) ?_
  refine lv_iload_n hx hb dX9_longestDelay_17 rfl (lv_at hl 0 rfl) ?_
  refine lv_iadd hx hb dX9_longestDelay_18 ?_
  refine tp_i (148) (by decide) ?_
  refine ld_i (v := 0) hx hb hN hP 1 rfl (vin (by decide +kernel)) (by first | rfl | decide +kernel) dX9_longestDelay_19 ?_
  refine cs_i (As := [.int 0, .int 0]) (rest := []) (wr := [(a0, .inr (9, [.int 0, .ref a2, .int 0, .int 0, .int 0, .int 0, .int 0, .int (-1), .ref a1, .ref a3, .ref a4, .ref a5, .int 1, .int 0, .int 0, .int 0, .int 0, .ref a6])), (a1, .inl (cs 0, 45783, .inl (layF (fun _ => 0) 1)))]) ⟨hx, hb, hml, hown, hts⟩ (fun sz => k145_X9_max l D cs sz ) (va_cwS 2 hts gX9_longestDelay_X9_max rfl rfl rfl hdX9_max_o ⟨Nat.le_of_ble_eq_true rfl, Nat.le_of_ble_eq_true rfl⟩) hN hP hD hS hA [] [0, 1] rfl rfl rfl rfl (by decide) rfl rfl hl.1 (Nat.le_of_ble_eq_true rfl) dX9_longestDelay_20 (Nat.le_of_ble_eq_true rfl) (Nat.le_of_ble_eq_true rfl) (fun u29 H locs hP hD hS => ?_)
  have hP : va_P D vwCl [(a0, .inr (9, [.int 0, .ref a2, .int 0, .int 0, .int 0, .int 0, .int 0, .int (-1), .ref a1, .ref a3, .ref a4, .ref a5, .int 1, .int 0, .int 0, .int 0, .int 0, .ref a6])), (a1, .inl (cs 0, 45783, .inl (layF (fun _ => 0) 1)))] H := hP
  have hD : va_D A [(a0, .inr (9, [.int 0, .ref a2, .int 0, .int 0, .int 0, .int 0, .int 0, .int (-1), .ref a1, .ref a3, .ref a4, .ref a5, .int 1, .int 0, .int 0, .int 0, .int 0, .ref a6])), (a1, .inl (cs 0, 45783, .inl (layF (fun _ => 0) 1)))] := hD
  refine W.widen (k := 0) (n := 0) (Nat.le_of_ble_eq_true rfl) (Nat.le_of_ble_eq_true rfl) ?_
  refine lv_istore_n (lv' := [(1, .int 0), (2, .int 29), (0, .ref a0)]) hx hb dX9_longestDelay_23 rfl hl (by decide) rfl (fun ls hl => ?_)
  refine lv_iinc (v := 30) (lv' := [(2, .int 30), (1, .int 0), (0, .ref a0)]) hx hb dX9_longestDelay_24 hl (k := 1) rfl (by decide) (by decide) rfl (fun ls hl => ?_)
  refine lv_goto (tgt := 4) hx hb dX9_longestDelay_27 (by decide) ?_
  refine lv_iload_n hx hb dX9_longestDelay_4 rfl (lv_at hl 0 rfl) ?_
  refine lv_bipush (v := 64) hx hb dX9_longestDelay_5 (by decide) ?_
  refine lv_icmp_ge (tgt := 30) hx hb dX9_longestDelay_7 (by decide) (fun c9 => absurd c9 (by decide)) (fun _ => ?_)
  refine lv_iload_n hx hb dX9_longestDelay_10 rfl (lv_at hl 1 rfl) ?_
  refine lv_aload_n hx hb dX9_longestDelay_11 rfl (lv_at hl 2 rfl) ?_
  refine va_get (D := D) (ci := 9) (v := .ref a1) (C := RX9) (T := TX9) (N := 18) hx hb hts iX9_longestDelay_9 hown hN.1 hP 0 rfl rfl 8 (by decide) (hts _ mX9_longestDelay_1) (fun _ h9 => h9) rfl dX9_longestDelay_12 ?_
  refine lv_bipush (v := 119) hx hb dX9_longestDelay_15 (by decide) ?_
  refine lv_iload_n hx hb dX9_longestDelay_17 rfl (lv_at hl 0 rfl) ?_
  refine lv_iadd hx hb dX9_longestDelay_18 ?_
  refine tp_i (149) (by decide) ?_
  refine ld_i (v := 0) hx hb hN hP 1 rfl (vin (by decide +kernel)) (by first | rfl | decide +kernel) dX9_longestDelay_19 ?_
  refine cs_i (As := [.int 0, .int 0]) (rest := []) (wr := [(a0, .inr (9, [.int 0, .ref a2, .int 0, .int 0, .int 0, .int 0, .int 0, .int (-1), .ref a1, .ref a3, .ref a4, .ref a5, .int 1, .int 0, .int 0, .int 0, .int 0, .ref a6])), (a1, .inl (cs 0, 45783, .inl (layF (fun _ => 0) 1)))]) ⟨hx, hb, hml, hown, hts⟩ (fun sz => k145_X9_max l D cs sz ) (va_cwS 2 hts gX9_longestDelay_X9_max rfl rfl rfl hdX9_max_o ⟨Nat.le_of_ble_eq_true rfl, Nat.le_of_ble_eq_true rfl⟩) hN hP hD hS hA [] [0, 1] rfl rfl rfl rfl (by decide) rfl rfl hl.1 (Nat.le_of_ble_eq_true rfl) dX9_longestDelay_20 (Nat.le_of_ble_eq_true rfl) (Nat.le_of_ble_eq_true rfl) (fun u30 H locs hP hD hS => ?_)
  have hP : va_P D vwCl [(a0, .inr (9, [.int 0, .ref a2, .int 0, .int 0, .int 0, .int 0, .int 0, .int (-1), .ref a1, .ref a3, .ref a4, .ref a5, .int 1, .int 0, .int 0, .int 0, .int 0, .ref a6])), (a1, .inl (cs 0, 45783, .inl (layF (fun _ => 0) 1)))] H := hP
  have hD : va_D A [(a0, .inr (9, [.int 0, .ref a2, .int 0, .int 0, .int 0, .int 0, .int 0, .int (-1), .ref a1, .ref a3, .ref a4, .ref a5, .int 1, .int 0, .int 0, .int 0, .int 0, .ref a6])), (a1, .inl (cs 0, 45783, .inl (layF (fun _ => 0) 1)))] := hD
  refine W.widen (k := 0) (n := 0) (Nat.le_of_ble_eq_true rfl) (Nat.le_of_ble_eq_true rfl) ?_
  refine lv_istore_n (lv' := [(1, .int 0), (2, .int 30), (0, .ref a0)]) hx hb dX9_longestDelay_23 rfl hl (by decide) rfl (fun ls hl => ?_)
  refine lv_iinc (v := 31) (lv' := [(2, .int 31), (1, .int 0), (0, .ref a0)]) hx hb dX9_longestDelay_24 hl (k := 1) rfl (by decide) (by decide) rfl (fun ls hl => ?_)
  refine lv_goto (tgt := 4) hx hb dX9_longestDelay_27 (by decide) ?_
  refine lv_iload_n hx hb dX9_longestDelay_4 rfl (lv_at hl 0 rfl) ?_
  refine lv_bipush (v := 64) hx hb dX9_longestDelay_5 (by decide) ?_
  refine lv_icmp_ge (tgt := 30) hx hb dX9_longestDelay_7 (by decide) (fun c9 => absurd c9 (by decide)) (fun _ => ?_)
  refine lv_iload_n hx hb dX9_longestDelay_10 rfl (lv_at hl 1 rfl) ?_
  refine lv_aload_n hx hb dX9_longestDelay_11 rfl (lv_at hl 2 rfl) ?_
  refine va_get (D := D) (ci := 9) (v := .ref a1) (C := RX9) (T := TX9) (N := 18) hx hb hts iX9_longestDelay_9 hown hN.1 hP 0 rfl rfl 8 (by decide) (hts _ mX9_longestDelay_1) (fun _ h9 => h9) rfl dX9_longestDelay_12 ?_
  refine lv_bipush (v := 119) hx hb dX9_longestDelay_15 (by decide) ?_
  refine lv_iload_n hx hb dX9_longestDelay_17 rfl (lv_at hl 0 rfl) ?_
  refine lv_iadd hx hb dX9_longestDelay_18 ?_
  refine tp_i (150) (by decide) ?_
  refine ld_i (v := 0) hx hb hN hP 1 rfl (vin (by decide +kernel)) (by first | rfl | decide +kernel) dX9_longestDelay_19 ?_
  refine cs_i (As := [.int 0, .int 0]) (rest := []) (wr := [(a0, .inr (9, [.int 0, .ref a2, .int 0, .int 0, .int 0, .int 0, .int 0, .int (-1), .ref a1, .ref a3, .ref a4, .ref a5, .int 1, .int 0, .int 0, .int 0, .int 0, .ref a6])), (a1, .inl (cs 0, 45783, .inl (layF (fun _ => 0) 1)))]) ⟨hx, hb, hml, hown, hts⟩ (fun sz => k145_X9_max l D cs sz ) (va_cwS 2 hts gX9_longestDelay_X9_max rfl rfl rfl hdX9_max_o ⟨Nat.le_of_ble_eq_true rfl, Nat.le_of_ble_eq_true rfl⟩) hN hP hD hS hA [] [0, 1] rfl rfl rfl rfl (by decide) rfl rfl hl.1 (Nat.le_of_ble_eq_true rfl) dX9_longestDelay_20 (Nat.le_of_ble_eq_true rfl) (Nat.le_of_ble_eq_true rfl) (fun u31 H locs hP hD hS => ?_)
  have hP : va_P D vwCl [(a0, .inr (9, [.int 0, .ref a2, .int 0, .int 0, .int 0, .int 0, .int 0, .int (-1), .ref a1, .ref a3, .ref a4, .ref a5, .int 1, .int 0, .int 0, .int 0, .int 0, .ref a6])), (a1, .inl (cs 0, 45783, .inl (layF (fun _ => 0) 1)))] H := hP
  have hD : va_D A [(a0, .inr (9, [.int 0, .ref a2, .int 0, .int 0, .int 0, .int 0, .int 0, .int (-1), .ref a1, .ref a3, .ref a4, .ref a5, .int 1, .int 0, .int 0, .int 0, .int 0, .ref a6])), (a1, .inl (cs 0, 45783, .inl (layF (fun _ => 0) 1)))] := hD
  refine W.widen (k := 0) (n := 0) (Nat.le_of_ble_eq_true rfl) (Nat.le_of_ble_eq_true rfl) ?_
  refine lv_istore_n (lv' := [(1, .int 0), (2, .int 31), (0, .ref a0)]) hx hb dX9_longestDelay_23 rfl hl (by decide) rfl (fun ls hl => ?_)
  refine lv_iinc (v := 32) (lv' := [(2, .int 32), (1, .int 0), (0, .ref a0)]) hx hb dX9_longestDelay_24 hl (k := 1) rfl (by decide) (by decide) rfl (fun ls hl => ?_)
  refine lv_goto (tgt := 4) hx hb dX9_longestDelay_27 (by decide) ?_
  refine lv_iload_n hx hb dX9_longestDelay_4 rfl (lv_at hl 0 rfl) ?_
  refine lv_bipush (v := 64) hx hb dX9_longestDelay_5 (by decide) ?_
  refine lv_icmp_ge (tgt := 30) hx hb dX9_longestDelay_7 (by decide) (fun c9 => absurd c9 (by decide)) (fun _ => ?_)
  refine lv_iload_n hx hb dX9_longestDelay_10 rfl (lv_at hl 1 rfl) ?_
  refine lv_aload_n hx hb dX9_longestDelay_11 rfl (lv_at hl 2 rfl) ?_
  refine va_get (D := D) (ci := 9) (v := .ref a1) (C := RX9) (T := TX9) (N := 18) hx hb hts iX9_longestDelay_9 hown hN.1 hP 0 rfl rfl 8 (by decide) (hts _ mX9_longestDelay_1) (fun _ h9 => h9) rfl dX9_longestDelay_12 ?_
  refine lv_bipush (v := 119) hx hb dX9_longestDelay_15 (by decide) ?_
  refine lv_iload_n hx hb dX9_longestDelay_17 rfl (lv_at hl 0 rfl) ?_
  refine lv_iadd hx hb dX9_longestDelay_18 ?_
  refine tp_i (151) (by decide) ?_
  refine ld_i (v := 0) hx hb hN hP 1 rfl (vin (by decide +kernel)) (by first | rfl | decide +kernel) dX9_longestDelay_19 ?_
  refine cs_i (As := [.int 0, .int 0]) (rest := []) (wr := [(a0, .inr (9, [.int 0, .ref a2, .int 0, .int 0, .int 0, .int 0, .int 0, .int (-1), .ref a1, .ref a3, .ref a4, .ref a5, .int 1, .int 0, .int 0, .int 0, .int 0, .ref a6])), (a1, .inl (cs 0, 45783, .inl (layF (fun _ => 0) 1)))]) ⟨hx, hb, hml, hown, hts⟩ (fun sz => k145_X9_max l D cs sz ) (va_cwS 2 hts gX9_longestDelay_X9_max rfl rfl rfl hdX9_max_o ⟨Nat.le_of_ble_eq_true rfl, Nat.le_of_ble_eq_true rfl⟩) hN hP hD hS hA [] [0, 1] rfl rfl rfl rfl (by decide) rfl rfl hl.1 (Nat.le_of_ble_eq_true rfl) dX9_longestDelay_20 (Nat.le_of_ble_eq_true rfl) (Nat.le_of_ble_eq_true rfl) (fun u32 H locs hP hD hS => ?_)
  have hP : va_P D vwCl [(a0, .inr (9, [.int 0, .ref a2, .int 0, .int 0, .int 0, .int 0, .int 0, .int (-1), .ref a1, .ref a3, .ref a4, .ref a5, .int 1, .int 0, .int 0, .int 0, .int 0, .ref a6])), (a1, .inl (cs 0, 45783, .inl (layF (fun _ => 0) 1)))] H := hP
  have hD : va_D A [(a0, .inr (9, [.int 0, .ref a2, .int 0, .int 0, .int 0, .int 0, .int 0, .int (-1), .ref a1, .ref a3, .ref a4, .ref a5, .int 1, .int 0, .int 0, .int 0, .int 0, .ref a6])), (a1, .inl (cs 0, 45783, .inl (layF (fun _ => 0) 1)))] := hD
  refine W.widen (k := 0) (n := 0) (Nat.le_of_ble_eq_true rfl) (Nat.le_of_ble_eq_true rfl) ?_
  refine lv_istore_n (lv' := [(1, .int 0), (2, .int 32), (0, .ref a0)]) hx hb dX9_longestDelay_23 rfl hl (by decide) rfl (fun ls hl => ?_)
  refine lv_iinc (v := 33) (lv' := [(2, .int 33), (1, .int 0), (0, .ref a0)]) hx hb dX9_longestDelay_24 hl (k := 1) rfl (by decide) (by decide) rfl (fun ls hl => ?_)
  refine lv_goto (tgt := 4) hx hb dX9_longestDelay_27 (by decide) ?_
  refine lv_iload_n hx hb dX9_longestDelay_4 rfl (lv_at hl 0 rfl) ?_
  refine lv_bipush (v := 64) hx hb dX9_longestDelay_5 (by decide) ?_
  refine lv_icmp_ge (tgt := 30) hx hb dX9_longestDelay_7 (by decide) (fun c9 => absurd c9 (by decide)) (fun _ => ?_)
  refine lv_iload_n hx hb dX9_longestDelay_10 rfl (lv_at hl 1 rfl) ?_
  refine lv_aload_n hx hb dX9_longestDelay_11 rfl (lv_at hl 2 rfl) ?_
  refine va_get (D := D) (ci := 9) (v := .ref a1) (C := RX9) (T := TX9) (N := 18) hx hb hts iX9_longestDelay_9 hown hN.1 hP 0 rfl rfl 8 (by decide) (hts _ mX9_longestDelay_1) (fun _ h9 => h9) rfl dX9_longestDelay_12 ?_
  refine lv_bipush (v := 119) hx hb dX9_longestDelay_15 (by decide) ?_
  refine lv_iload_n hx hb dX9_longestDelay_17 rfl (lv_at hl 0 rfl) ?_
  refine lv_iadd hx hb dX9_longestDelay_18 ?_
  refine tp_i (152) (by decide) ?_
  refine ld_i (v := 0) hx hb hN hP 1 rfl (vin (by decide +kernel)) (by first | rfl | decide +kernel) dX9_longestDelay_19 ?_
  refine cs_i (As := [.int 0, .int 0]) (rest := []) (wr := [(a0, .inr (9, [.int 0, .ref a2, .int 0, .int 0, .int 0, .int 0, .int 0, .int (-1), .ref a1, .ref a3, .ref a4, .ref a5, .int 1, .int 0, .int 0, .int 0, .int 0, .ref a6])), (a1, .inl (cs 0, 45783, .inl (layF (fun _ => 0) 1)))]) ⟨hx, hb, hml, hown, hts⟩ (fun sz => k145_X9_max l D cs sz ) (va_cwS 2 hts gX9_longestDelay_X9_max rfl rfl rfl hdX9_max_o ⟨Nat.le_of_ble_eq_true rfl, Nat.le_of_ble_eq_true rfl⟩) hN hP hD hS hA [] [0, 1] rfl rfl rfl rfl (by decide) rfl rfl hl.1 (Nat.le_of_ble_eq_true rfl) dX9_longestDelay_20 (Nat.le_of_ble_eq_true rfl) (Nat.le_of_ble_eq_true rfl) (fun u33 H locs hP hD hS => ?_)
  have hP : va_P D vwCl [(a0, .inr (9, [.int 0, .ref a2, .int 0, .int 0, .int 0, .int 0, .int 0, .int (-1), .ref a1, .ref a3, .ref a4, .ref a5, .int 1, .int 0, .int 0, .int 0, .int 0, .ref a6])), (a1, .inl (cs 0, 45783, .inl (layF (fun _ => 0) 1)))] H := hP
  have hD : va_D A [(a0, .inr (9, [.int 0, .ref a2, .int 0, .int 0, .int 0, .int 0, .int 0, .int (-1), .ref a1, .ref a3, .ref a4, .ref a5, .int 1, .int 0, .int 0, .int 0, .int 0, .ref a6])), (a1, .inl (cs 0, 45783, .inl (layF (fun _ => 0) 1)))] := hD
  refine W.widen (k := 0) (n := 0) (Nat.le_of_ble_eq_true rfl) (Nat.le_of_ble_eq_true rfl) ?_
  refine lv_istore_n (lv' := [(1, .int 0), (2, .int 33), (0, .ref a0)]) hx hb dX9_longestDelay_23 rfl hl (by decide) rfl (fun ls hl => ?_)
  refine lv_iinc (v := 34) (lv' := [(2, .int 34), (1, .int 0), (0, .ref a0)]) hx hb dX9_longestDelay_24 hl (k := 1) rfl (by decide) (by decide) rfl (fun ls hl => ?_)
  refine lv_goto (tgt := 4) hx hb dX9_longestDelay_27 (by decide) ?_
  refine lv_iload_n hx hb dX9_longestDelay_4 rfl (lv_at hl 0 rfl) ?_
  refine lv_bipush (v := 64) hx hb dX9_longestDelay_5 (by decide) ?_
  refine lv_icmp_ge (tgt := 30) hx hb dX9_longestDelay_7 (by decide) (fun c9 => absurd c9 (by decide)) (fun _ => ?_)
  refine lv_iload_n hx hb dX9_longestDelay_10 rfl (lv_at hl 1 rfl) ?_
  refine lv_aload_n hx hb dX9_longestDelay_11 rfl (lv_at hl 2 rfl) ?_
  refine va_get (D := D) (ci := 9) (v := .ref a1) (C := RX9) (T := TX9) (N := 18) hx hb hts iX9_longestDelay_9 hown hN.1 hP 0 rfl rfl 8 (by decide) (hts _ mX9_longestDelay_1) (fun _ h9 => h9) rfl dX9_longestDelay_12 ?_
  refine lv_bipush (v := 119) hx hb dX9_longestDelay_15 (by decide) ?_
  refine lv_iload_n hx hb dX9_longestDelay_17 rfl (lv_at hl 0 rfl) ?_
  refine lv_iadd hx hb dX9_longestDelay_18 ?_
  refine tp_i (153) (by decide) ?_
  refine ld_i (v := 0) hx hb hN hP 1 rfl (vin (by decide +kernel)) (by first | rfl | decide +kernel) dX9_longestDelay_19 ?_
  refine cs_i (As := [.int 0, .int 0]) (rest := []) (wr := [(a0, .inr (9, [.int 0, .ref a2, .int 0, .int 0, .int 0, .int 0, .int 0, .int (-1), .ref a1, .ref a3, .ref a4, .ref a5, .int 1, .int 0, .int 0, .int 0, .int 0, .ref a6])), (a1, .inl (cs 0, 45783, .inl (layF (fun _ => 0) 1)))]) ⟨hx, hb, hml, hown, hts⟩ (fun sz => k145_X9_max l D cs sz ) (va_cwS 2 hts gX9_longestDelay_X9_max rfl rfl rfl hdX9_max_o ⟨Nat.le_of_ble_eq_true rfl, Nat.le_of_ble_eq_true rfl⟩) hN hP hD hS hA [] [0, 1] rfl rfl rfl rfl (by decide) rfl rfl hl.1 (Nat.le_of_ble_eq_true rfl) dX9_longestDelay_20 (Nat.le_of_ble_eq_true rfl) (Nat.le_of_ble_eq_true rfl) (fun u34 H locs hP hD hS => ?_)
  have hP : va_P D vwCl [(a0, .inr (9, [.int 0, .ref a2, .int 0, .int 0, .int 0, .int 0, .int 0, .int (-1), .ref a1, .ref a3, .ref a4, .ref a5, .int 1, .int 0, .int 0, .int 0, .int 0, .ref a6])), (a1, .inl (cs 0, 45783, .inl (layF (fun _ => 0) 1)))] H := hP
  have hD : va_D A [(a0, .inr (9, [.int 0, .ref a2, .int 0, .int 0, .int 0, .int 0, .int 0, .int (-1), .ref a1, .ref a3, .ref a4, .ref a5, .int 1, .int 0, .int 0, .int 0, .int 0, .ref a6])), (a1, .inl (cs 0, 45783, .inl (layF (fun _ => 0) 1)))] := hD
  refine W.widen (k := 0) (n := 0) (Nat.le_of_ble_eq_true rfl) (Nat.le_of_ble_eq_true rfl) ?_
  refine lv_istore_n (lv' := [(1, .int 0), (2, .int 34), (0, .ref a0)]) hx hb dX9_longestDelay_23 rfl hl (by decide) rfl (fun ls hl => ?_)
  refine lv_iinc (v := 35) (lv' := [(2, .int 35), (1, .int 0), (0, .ref a0)]) hx hb dX9_longestDelay_24 hl (k := 1) rfl (by decide) (by decide) rfl (fun ls hl => ?_)
  refine lv_goto (tgt := 4) hx hb dX9_longestDelay_27 (by decide) ?_
  refine lv_iload_n hx hb dX9_longestDelay_4 rfl (lv_at hl 0 rfl) ?_
  refine lv_bipush (v := 64) hx hb dX9_longestDelay_5 (by decide) ?_
  refine lv_icmp_ge (tgt := 30) hx hb dX9_longestDelay_7 (by decide) (fun c9 => absurd c9 (by decide)) (fun _ => ?_)
  refine lv_iload_n hx hb dX9_longestDelay_10 rfl (lv_at hl 1 rfl) ?_
  refine lv_aload_n hx hb dX9_longestDelay_11 rfl (lv_at hl 2 rfl) ?_
  refine va_get (D := D) (ci := 9) (v := .ref a1) (C := RX9) (T := TX9) (N := 18) hx hb hts iX9_longestDelay_9 hown hN.1 hP 0 rfl rfl 8 (by decide) (hts _ mX9_longestDelay_1) (fun _ h9 => h9) rfl dX9_longestDelay_12 ?_
  refine lv_bipush (v := 119) hx hb dX9_longestDelay_15 (by decide) ?_
  refine lv_iload_n hx hb dX9_longestDelay_17 rfl (lv_at hl 0 rfl) ?_
  refine lv_iadd hx hb dX9_longestDelay_18 ?_
  refine tp_i (154) (by decide) ?_
  refine ld_i (v := 0) hx hb hN hP 1 rfl (vin (by decide +kernel)) (by first | rfl | decide +kernel) dX9_longestDelay_19 ?_
  refine cs_i (As := [.int 0, .int 0]) (rest := []) (wr := [(a0, .inr (9, [.int 0, .ref a2, .int 0, .int 0, .int 0, .int 0, .int 0, .int (-1), .ref a1, .ref a3, .ref a4, .ref a5, .int 1, .int 0, .int 0, .int 0, .int 0, .ref a6])), (a1, .inl (cs 0, 45783, .inl (layF (fun _ => 0) 1)))]) ⟨hx, hb, hml, hown, hts⟩ (fun sz => k145_X9_max l D cs sz ) (va_cwS 2 hts gX9_longestDelay_X9_max rfl rfl rfl hdX9_max_o ⟨Nat.le_of_ble_eq_true rfl, Nat.le_of_ble_eq_true rfl⟩) hN hP hD hS hA [] [0, 1] rfl rfl rfl rfl (by decide) rfl rfl hl.1 (Nat.le_of_ble_eq_true rfl) dX9_longestDelay_20 (Nat.le_of_ble_eq_true rfl) (Nat.le_of_ble_eq_true rfl) (fun u35 H locs hP hD hS => ?_)
  have hP : va_P D vwCl [(a0, .inr (9, [.int 0, .ref a2, .int 0, .int 0, .int 0, .int 0, .int 0, .int (-1), .ref a1, .ref a3, .ref a4, .ref a5, .int 1, .int 0, .int 0, .int 0, .int 0, .ref a6])), (a1, .inl (cs 0, 45783, .inl (layF (fun _ => 0) 1)))] H := hP
  have hD : va_D A [(a0, .inr (9, [.int 0, .ref a2, .int 0, .int 0, .int 0, .int 0, .int 0, .int (-1), .ref a1, .ref a3, .ref a4, .ref a5, .int 1, .int 0, .int 0, .int 0, .int 0, .ref a6])), (a1, .inl (cs 0, 45783, .inl (layF (fun _ => 0) 1)))] := hD
  refine W.widen (k := 0) (n := 0) (Nat.le_of_ble_eq_true rfl) (Nat.le_of_ble_eq_true rfl) ?_
  refine lv_istore_n (lv' := [(1, .int 0), (2, .int 35), (0, .ref a0)]) hx hb dX9_longestDelay_23 rfl hl (by decide) rfl (fun ls hl => ?_)
  refine lv_iinc (v := 36) (lv' := [(2, .int 36), (1, .int 0), (0, .ref a0)]) hx hb dX9_longestDelay_24 hl (k := 1) rfl (by decide) (by decide) rfl (fun ls hl => ?_)
  refine lv_goto (tgt := 4) hx hb dX9_longestDelay_27 (by decide) ?_
  refine lv_iload_n hx hb dX9_longestDelay_4 rfl (lv_at hl 0 rfl) ?_
  refine lv_bipush (v := 64) hx hb dX9_longestDelay_5 (by decide) ?_
  refine lv_icmp_ge (tgt := 30) hx hb dX9_longestDelay_7 (by decide) (fun c9 => absurd c9 (by decide)) (fun _ => ?_)
  refine lv_iload_n hx hb dX9_longestDelay_10 rfl (lv_at hl 1 rfl) ?_
  refine lv_aload_n hx hb dX9_longestDelay_11 rfl (lv_at hl 2 rfl) ?_
  refine va_get (D := D) (ci := 9) (v := .ref a1) (C := RX9) (T := TX9) (N := 18) hx hb hts iX9_longestDelay_9 hown hN.1 hP 0 rfl rfl 8 (by decide) (hts _ mX9_longestDelay_1) (fun _ h9 => h9) rfl dX9_longestDelay_12 ?_
  refine lv_bipush (v := 119) hx hb dX9_longestDelay_15 (by decide) ?_
  refine lv_iload_n hx hb dX9_longestDelay_17 rfl (lv_at hl 0 rfl) ?_
  refine lv_iadd hx hb dX9_longestDelay_18 ?_
  refine tp_i (155) (by decide) ?_
  refine ld_i (v := 0) hx hb hN hP 1 rfl (vin (by decide +kernel)) (by first | rfl | decide +kernel) dX9_longestDelay_19 ?_
  refine cs_i (As := [.int 0, .int 0]) (rest := []) (wr := [(a0, .inr (9, [.int 0, .ref a2, .int 0, .int 0, .int 0, .int 0, .int 0, .int (-1), .ref a1, .ref a3, .ref a4, .ref a5, .int 1, .int 0, .int 0, .int 0, .int 0, .ref a6])), (a1, .inl (cs 0, 45783, .inl (layF (fun _ => 0) 1)))]) ⟨hx, hb, hml, hown, hts⟩ (fun sz => k145_X9_max l D cs sz ) (va_cwS 2 hts gX9_longestDelay_X9_max rfl rfl rfl hdX9_max_o ⟨Nat.le_of_ble_eq_true rfl, Nat.le_of_ble_eq_true rfl⟩) hN hP hD hS hA [] [0, 1] rfl rfl rfl rfl (by decide) rfl rfl hl.1 (Nat.le_of_ble_eq_true rfl) dX9_longestDelay_20 (Nat.le_of_ble_eq_true rfl) (Nat.le_of_ble_eq_true rfl) (fun u36 H locs hP hD hS => ?_)
  have hP : va_P D vwCl [(a0, .inr (9, [.int 0, .ref a2, .int 0, .int 0, .int 0, .int 0, .int 0, .int (-1), .ref a1, .ref a3, .ref a4, .ref a5, .int 1, .int 0, .int 0, .int 0, .int 0, .ref a6])), (a1, .inl (cs 0, 45783, .inl (layF (fun _ => 0) 1)))] H := hP
  have hD : va_D A [(a0, .inr (9, [.int 0, .ref a2, .int 0, .int 0, .int 0, .int 0, .int 0, .int (-1), .ref a1, .ref a3, .ref a4, .ref a5, .int 1, .int 0, .int 0, .int 0, .int 0, .ref a6])), (a1, .inl (cs 0, 45783, .inl (layF (fun _ => 0) 1)))] := hD
  refine W.widen (k := 0) (n := 0) (Nat.le_of_ble_eq_true rfl) (Nat.le_of_ble_eq_true rfl) ?_
  refine lv_istore_n (lv' := [(1, .int 0), (2, .int 36), (0, .ref a0)]) hx hb dX9_longestDelay_23 rfl hl (by decide) rfl (fun ls hl => ?_)
  refine lv_iinc (v := 37) (lv' := [(2, .int 37), (1, .int 0), (0, .ref a0)]) hx hb dX9_longestDelay_24 hl (k := 1) rfl (by decide) (by decide) rfl (fun ls hl => ?_)
  refine lv_goto (tgt := 4) hx hb dX9_longestDelay_27 (by decide) ?_
  refine lv_iload_n hx hb dX9_longestDelay_4 rfl (lv_at hl 0 rfl) ?_
  refine lv_bipush (v := 64) hx hb dX9_longestDelay_5 (by decide) ?_
  refine lv_icmp_ge (tgt := 30) hx hb dX9_longestDelay_7 (by decide) (fun c9 => absurd c9 (by decide)) (fun _ => ?_)
  refine lv_iload_n hx hb dX9_longestDelay_10 rfl (lv_at hl 1 rfl) ?_
  refine lv_aload_n hx hb dX9_longestDelay_11 rfl (lv_at hl 2 rfl) ?_
  refine va_get (D := D) (ci := 9) (v := .ref a1) (C := RX9) (T := TX9) (N := 18) hx hb hts iX9_longestDelay_9 hown hN.1 hP 0 rfl rfl 8 (by decide) (hts _ mX9_longestDelay_1) (fun _ h9 => h9) rfl dX9_longestDelay_12 ?_
  refine lv_bipush (v := 119) hx hb dX9_longestDelay_15 (by decide) ?_
  refine lv_iload_n hx hb dX9_longestDelay_17 rfl (lv_at hl 0 rfl) ?_
  refine lv_iadd hx hb dX9_longestDelay_18 ?_
  refine tp_i (156) (by decide) ?_
  refine ld_i (v := 0) hx hb hN hP 1 rfl (vin (by decide +kernel)) (by first | rfl | decide +kernel) dX9_longestDelay_19 ?_
  refine cs_i (As := [.int 0, .int 0]) (rest := []) (wr := [(a0, .inr (9, [.int 0, .ref a2, .int 0, .int 0, .int 0, .int 0, .int 0, .int (-1), .ref a1, .ref a3, .ref a4, .ref a5, .int 1, .int 0, .int 0, .int 0, .int 0, .ref a6])), (a1, .inl (cs 0, 45783, .inl (layF (fun _ => 0) 1)))]) ⟨hx, hb, hml, hown, hts⟩ (fun sz => k145_X9_max l D cs sz ) (va_cwS 2 hts gX9_longestDelay_X9_max rfl rfl rfl hdX9_max_o ⟨Nat.le_of_ble_eq_true rfl, Nat.le_of_ble_eq_true rfl⟩) hN hP hD hS hA [] [0, 1] rfl rfl rfl rfl (by decide) rfl rfl hl.1 (Nat.le_of_ble_eq_true rfl) dX9_longestDelay_20 (Nat.le_of_ble_eq_true rfl) (Nat.le_of_ble_eq_true rfl) (fun u37 H locs hP hD hS => ?_)
  have hP : va_P D vwCl [(a0, .inr (9, [.int 0, .ref a2, .int 0, .int 0, .int 0, .int 0, .int 0, .int (-1), .ref a1, .ref a3, .ref a4, .ref a5, .int 1, .int 0, .int 0, .int 0, .int 0, .ref a6])), (a1, .inl (cs 0, 45783, .inl (layF (fun _ => 0) 1)))] H := hP
  have hD : va_D A [(a0, .inr (9, [.int 0, .ref a2, .int 0, .int 0, .int 0, .int 0, .int 0, .int (-1), .ref a1, .ref a3, .ref a4, .ref a5, .int 1, .int 0, .int 0, .int 0, .int 0, .ref a6])), (a1, .inl (cs 0, 45783, .inl (layF (fun _ => 0) 1)))] := hD
  refine W.widen (k := 0) (n := 0) (Nat.le_of_ble_eq_true rfl) (Nat.le_of_ble_eq_true rfl) ?_
  refine lv_istore_n (lv' := [(1, .int 0), (2, .int 37), (0, .ref a0)]) hx hb dX9_longestDelay_23 rfl hl (by decide) rfl (fun ls hl => ?_)
  refine lv_iinc (v := 38) (lv' := [(2, .int 38), (1, .int 0), (0, .ref a0)]) hx hb dX9_longestDelay_24 hl (k := 1) rfl (by decide) (by decide) rfl (fun ls hl => ?_)
  refine lv_goto (tgt := 4) hx hb dX9_longestDelay_27 (by decide) ?_
  refine lv_iload_n hx hb dX9_longestDelay_4 rfl (lv_at hl 0 rfl) ?_
  refine lv_bipush (v := 64) hx hb dX9_longestDelay_5 (by decide) ?_
  refine lv_icmp_ge (tgt := 30) hx hb dX9_longestDelay_7 (by decide) (fun c9 => absurd c9 (by decide)) (fun _ => ?_)
  refine lv_iload_n hx hb dX9_longestDelay_10 rfl (lv_at hl 1 rfl) ?_
  refine lv_aload_n hx hb dX9_longestDelay_11 rfl (lv_at hl 2 rfl) ?_
  refine va_get (D := D) (ci := 9) (v := .ref a1) (C := RX9) (T := TX9) (N := 18) hx hb hts iX9_longestDelay_9 hown hN.1 hP 0 rfl rfl 8 (by decide) (hts _ mX9_longestDelay_1) (fun _ h9 => h9) rfl dX9_longestDelay_12 ?_
  refine lv_bipush (v := 119) hx hb dX9_longestDelay_15 (by decide) ?_
  refine lv_iload_n hx hb dX9_longestDelay_17 rfl (lv_at hl 0 rfl) ?_
  refine lv_iadd hx hb dX9_longestDelay_18 ?_
  refine tp_i (157) (by decide) ?_
  refine ld_i (v := 0) hx hb hN hP 1 rfl (vin (by decide +kernel)) (by first | rfl | decide +kernel) dX9_longestDelay_19 ?_
  refine cs_i (As := [.int 0, .int 0]) (rest := []) (wr := [(a0, .inr (9, [.int 0, .ref a2, .int 0, .int 0, .int 0, .int 0, .int 0, .int (-1), .ref a1, .ref a3, .ref a4, .ref a5, .int 1, .int 0, .int 0, .int 0, .int 0, .ref a6])), (a1, .inl (cs 0, 45783, .inl (layF (fun _ => 0) 1)))]) ⟨hx, hb, hml, hown, hts⟩ (fun sz => k145_X9_max l D cs sz ) (va_cwS 2 hts gX9_longestDelay_X9_max rfl rfl rfl hdX9_max_o ⟨Nat.le_of_ble_eq_true rfl, Nat.le_of_ble_eq_true rfl⟩) hN hP hD hS hA [] [0, 1] rfl rfl rfl rfl (by decide) rfl rfl hl.1 (Nat.le_of_ble_eq_true rfl) dX9_longestDelay_20 (Nat.le_of_ble_eq_true rfl) (Nat.le_of_ble_eq_true rfl) (fun u38 H locs hP hD hS => ?_)
  have hP : va_P D vwCl [(a0, .inr (9, [.int 0, .ref a2, .int 0, .int 0, .int 0, .int 0, .int 0, .int (-1), .ref a1, .ref a3, .ref a4, .ref a5, .int 1, .int 0, .int 0, .int 0, .int 0, .ref a6])), (a1, .inl (cs 0, 45783, .inl (layF (fun _ => 0) 1)))] H := hP
  have hD : va_D A [(a0, .inr (9, [.int 0, .ref a2, .int 0, .int 0, .int 0, .int 0, .int 0, .int (-1), .ref a1, .ref a3, .ref a4, .ref a5, .int 1, .int 0, .int 0, .int 0, .int 0, .ref a6])), (a1, .inl (cs 0, 45783, .inl (layF (fun _ => 0) 1)))] := hD
  refine W.widen (k := 0) (n := 0) (Nat.le_of_ble_eq_true rfl) (Nat.le_of_ble_eq_true rfl) ?_
  refine lv_istore_n (lv' := [(1, .int 0), (2, .int 38), (0, .ref a0)]) hx hb dX9_longestDelay_23 rfl hl (by decide) rfl (fun ls hl => ?_)
  refine lv_iinc (v := 39) (lv' := [(2, .int 39), (1, .int 0), (0, .ref a0)]) hx hb dX9_longestDelay_24 hl (k := 1) rfl (by decide) (by decide) rfl (fun ls hl => ?_)
  refine lv_goto (tgt := 4) hx hb dX9_longestDelay_27 (by decide) ?_
  refine lv_iload_n hx hb dX9_longestDelay_4 rfl (lv_at hl 0 rfl) ?_
  refine lv_bipush (v := 64) hx hb dX9_longestDelay_5 (by decide) ?_
  refine lv_icmp_ge (tgt := 30) hx hb dX9_longestDelay_7 (by decide) (fun c9 => absurd c9 (by decide)) (fun _ => ?_)
  refine lv_iload_n hx hb dX9_longestDelay_10 rfl (lv_at hl 1 rfl) ?_
  refine lv_aload_n hx hb dX9_longestDelay_11 rfl (lv_at hl 2 rfl) ?_
  refine va_get (D := D) (ci := 9) (v := .ref a1) (C := RX9) (T := TX9) (N := 18) hx hb hts iX9_longestDelay_9 hown hN.1 hP 0 rfl rfl 8 (by decide) (hts _ mX9_longestDelay_1) (fun _ h9 => h9) rfl dX9_longestDelay_12 ?_
  refine lv_bipush (v := 119) hx hb dX9_longestDelay_15 (by decide) ?_
  refine lv_iload_n hx hb dX9_longestDelay_17 rfl (lv_at hl 0 rfl) ?_
  refine lv_iadd hx hb dX9_longestDelay_18 ?_
  refine tp_i (158) (by decide) ?_
  refine ld_i (v := 0) hx hb hN hP 1 rfl (vin (by decide +kernel)) (by first | rfl | decide +kernel) dX9_longestDelay_19 ?_
  refine cs_i (As := [.int 0, .int 0]) (rest := []) (wr := [(a0, .inr (9, [.int 0, .ref a2, .int 0, .int 0, .int 0, .int 0, .int 0, .int (-1), .ref a1, .ref a3, .ref a4, .ref a5, .int 1, .int 0, .int 0, .int 0, .int 0, .ref a6])), (a1, .inl (cs 0, 45783, .inl (layF (fun _ => 0) 1)))]) ⟨hx, hb, hml, hown, hts⟩ (fun sz => k145_X9_max l D cs sz ) (va_cwS 2 hts gX9_longestDelay_X9_max rfl rfl rfl hdX9_max_o ⟨Nat.le_of_ble_eq_true rfl, Nat.le_of_ble_eq_true rfl⟩) hN hP hD hS hA [] [0, 1] rfl rfl rfl rfl (by decide) rfl rfl hl.1 (Nat.le_of_ble_eq_true rfl) dX9_longestDelay_20 (Nat.le_of_ble_eq_true rfl) (Nat.le_of_ble_eq_true rfl) (fun u39 H locs hP hD hS => ?_)
  have hP : va_P D vwCl [(a0, .inr (9, [.int 0, .ref a2, .int 0, .int 0, .int 0, .int 0, .int 0, .int (-1), .ref a1, .ref a3, .ref a4, .ref a5, .int 1, .int 0, .int 0, .int 0, .int 0, .ref a6])), (a1, .inl (cs 0, 45783, .inl (layF (fun _ => 0) 1)))] H := hP
  have hD : va_D A [(a0, .inr (9, [.int 0, .ref a2, .int 0, .int 0, .int 0, .int 0, .int 0, .int (-1), .ref a1, .ref a3, .ref a4, .ref a5, .int 1, .int 0, .int 0, .int 0, .int 0, .ref a6])), (a1, .inl (cs 0, 45783, .inl (layF (fun _ => 0) 1)))] := hD
  refine W.widen (k := 0) (n := 0) (Nat.le_of_ble_eq_true rfl) (Nat.le_of_ble_eq_true rfl) ?_
  refine lv_istore_n (lv' := [(1, .int 0), (2, .int 39), (0, .ref a0)]) hx hb dX9_longestDelay_23 rfl hl (by decide) rfl (fun ls hl => ?_)
  refine lv_iinc (v := 40) (lv' := [(2, .int 40), (1, .int 0), (0, .ref a0)]) hx hb dX9_longestDelay_24 hl (k := 1) rfl (by decide) (by decide) rfl (fun ls hl => ?_)
  refine lv_goto (tgt := 4) hx hb dX9_longestDelay_27 (by decide) ?_
  refine lv_iload_n hx hb dX9_longestDelay_4 rfl (lv_at hl 0 rfl) ?_
  refine lv_bipush (v := 64) hx hb dX9_longestDelay_5 (by decide) ?_
  refine lv_icmp_ge (tgt := 30) hx hb dX9_longestDelay_7 (by decide) (fun c9 => absurd c9 (by decide)) (fun _ => ?_)
  refine lv_iload_n hx hb dX9_longestDelay_10 rfl (lv_at hl 1 rfl) ?_
  refine lv_aload_n hx hb dX9_longestDelay_11 rfl (lv_at hl 2 rfl) ?_
  refine va_get (D := D) (ci := 9) (v := .ref a1) (C := RX9) (T := TX9) (N := 18) hx hb hts iX9_longestDelay_9 hown hN.1 hP 0 rfl rfl 8 (by decide) (hts _ mX9_longestDelay_1) (fun _ h9 => h9) rfl dX9_longestDelay_12 ?_
  refine lv_bipush (v := 119) hx hb dX9_longestDelay_15 (by decide) ?_
  refine lv_iload_n hx hb dX9_longestDelay_17 rfl (lv_at hl 0 rfl) ?_
  refine lv_iadd hx hb dX9_longestDelay_18 ?_
  refine tp_i (159) (by decide) ?_
  refine ld_i (v := 0) hx hb hN hP 1 rfl (vin (by decide +kernel)) (by first | rfl | decide +kernel) dX9_longestDelay_19 ?_
  refine cs_i (As := [.int 0, .int 0]) (rest := []) (wr := [(a0, .inr (9, [.int 0, .ref a2, .int 0, .int 0, .int 0, .int 0, .int 0, .int (-1), .ref a1, .ref a3, .ref a4, .ref a5, .int 1, .int 0, .int 0, .int 0, .int 0, .ref a6])), (a1, .inl (cs 0, 45783, .inl (layF (fun _ => 0) 1)))]) ⟨hx, hb, hml, hown, hts⟩ (fun sz => k145_X9_max l D cs sz ) (va_cwS 2 hts gX9_longestDelay_X9_max rfl rfl rfl hdX9_max_o ⟨Nat.le_of_ble_eq_true rfl, Nat.le_of_ble_eq_true rfl⟩) hN hP hD hS hA [] [0, 1] rfl rfl rfl rfl (by decide) rfl rfl hl.1 (Nat.le_of_ble_eq_true rfl) dX9_longestDelay_20 (Nat.le_of_ble_eq_true rfl) (Nat.le_of_ble_eq_true rfl) (fun u40 H locs hP hD hS => ?_)
  have hP : va_P D vwCl [(a0, .inr (9, [.int 0, .ref a2, .int 0, .int 0, .int 0, .int 0, .int 0, .int (-1), .ref a1, .ref a3, .ref a4, .ref a5, .int 1, .int 0, .int 0, .int 0, .int 0, .ref a6])), (a1, .inl (cs 0, 45783, .inl (layF (fun _ => 0) 1)))] H := hP
  have hD : va_D A [(a0, .inr (9, [.int 0, .ref a2, .int 0, .int 0, .int 0, .int 0, .int 0, .int (-1), .ref a1, .ref a3, .ref a4, .ref a5, .int 1, .int 0, .int 0, .int 0, .int 0, .ref a6])), (a1, .inl (cs 0, 45783, .inl (layF (fun _ => 0) 1)))] := hD
  refine W.widen (k := 0) (n := 0) (Nat.le_of_ble_eq_true rfl) (Nat.le_of_ble_eq_true rfl) ?_
  refine lv_istore_n (lv' := [(1, .int 0), (2, .int 40), (0, .ref a0)]) hx hb dX9_longestDelay_23 rfl hl (by decide) rfl (fun ls hl => ?_)
  refine lv_iinc (v := 41) (lv' := [(2, .int 41), (1, .int 0), (0, .ref a0)]) hx hb dX9_longestDelay_24 hl (k := 1) rfl (by decide) (by decide) rfl (fun ls hl => ?_)
  refine lv_goto (tgt := 4) hx hb dX9_longestDelay_27 (by decide) ?_
  refine lv_iload_n hx hb dX9_longestDelay_4 rfl (lv_at hl 0 rfl) ?_
  refine lv_bipush (v := 64) hx hb dX9_longestDelay_5 (by decide) ?_
  refine lv_icmp_ge (tgt := 30) hx hb dX9_longestDelay_7 (by decide) (fun c9 => absurd c9 (by decide)) (fun _ => ?_)
  refine lv_iload_n hx hb dX9_longestDelay_10 rfl (lv_at hl 1 rfl) ?_
  refine lv_aload_n hx hb dX9_longestDelay_11 rfl (lv_at hl 2 rfl) ?_
  refine va_get (D := D) (ci := 9) (v := .ref a1) (C := RX9) (T := TX9) (N := 18) hx hb hts iX9_longestDelay_9 hown hN.1 hP 0 rfl rfl 8 (by decide) (hts _ mX9_longestDelay_1) (fun _ h9 => h9) rfl dX9_longestDelay_12 ?_
  refine lv_bipush (v := 119) hx hb dX9_longestDelay_15 (by decide) ?_
  refine lv_iload_n hx hb dX9_longestDelay_17 rfl (lv_at hl 0 rfl) ?_
  refine lv_iadd hx hb dX9_longestDelay_18 ?_
  refine tp_i (160) (by decide) ?_
  refine ld_i (v := 0) hx hb hN hP 1 rfl (vin (by decide +kernel)) (by first | rfl | decide +kernel) dX9_longestDelay_19 ?_
  refine cs_i (As := [.int 0, .int 0]) (rest := []) (wr := [(a0, .inr (9, [.int 0, .ref a2, .int 0, .int 0, .int 0, .int 0, .int 0, .int (-1), .ref a1, .ref a3, .ref a4, .ref a5, .int 1, .int 0, .int 0, .int 0, .int 0, .ref a6])), (a1, .inl (cs 0, 45783, .inl (layF (fun _ => 0) 1)))]) ⟨hx, hb, hml, hown, hts⟩ (fun sz => k145_X9_max l D cs sz ) (va_cwS 2 hts gX9_longestDelay_X9_max rfl rfl rfl hdX9_max_o ⟨Nat.le_of_ble_eq_true rfl, Nat.le_of_ble_eq_true rfl⟩) hN hP hD hS hA [] [0, 1] rfl rfl rfl rfl (by decide) rfl rfl hl.1 (Nat.le_of_ble_eq_true rfl) dX9_longestDelay_20 (Nat.le_of_ble_eq_true rfl) (Nat.le_of_ble_eq_true rfl) (fun u41 H locs hP hD hS => ?_)
  have hP : va_P D vwCl [(a0, .inr (9, [.int 0, .ref a2, .int 0, .int 0, .int 0, .int 0, .int 0, .int (-1), .ref a1, .ref a3, .ref a4, .ref a5, .int 1, .int 0, .int 0, .int 0, .int 0, .ref a6])), (a1, .inl (cs 0, 45783, .inl (layF (fun _ => 0) 1)))] H := hP
  have hD : va_D A [(a0, .inr (9, [.int 0, .ref a2, .int 0, .int 0, .int 0, .int 0, .int 0, .int (-1), .ref a1, .ref a3, .ref a4, .ref a5, .int 1, .int 0, .int 0, .int 0, .int 0, .ref a6])), (a1, .inl (cs 0, 45783, .inl (layF (fun _ => 0) 1)))] := hD
  refine W.widen (k := 0) (n := 0) (Nat.le_of_ble_eq_true rfl) (Nat.le_of_ble_eq_true rfl) ?_
  refine lv_istore_n (lv' := [(1, .int 0), (2, .int 41), (0, .ref a0)]) hx hb dX9_longestDelay_23 rfl hl (by decide) rfl (fun ls hl => ?_)
  refine lv_iinc (v := 42) (lv' := [(2, .int 42), (1, .int 0), (0, .ref a0)]) hx hb dX9_longestDelay_24 hl (k := 1) rfl (by decide) (by decide) rfl (fun ls hl => ?_)
  refine lv_goto (tgt := 4) hx hb dX9_longestDelay_27 (by decide) ?_
  refine lv_iload_n hx hb dX9_longestDelay_4 rfl (lv_at hl 0 rfl) ?_
  refine lv_bipush (v := 64) hx hb dX9_longestDelay_5 (by decide) ?_
  refine lv_icmp_ge (tgt := 30) hx hb dX9_longestDelay_7 (by decide) (fun c9 => absurd c9 (by decide)) (fun _ => ?_)
  refine lv_iload_n hx hb dX9_longestDelay_10 rfl (lv_at hl 1 rfl) ?_
  refine lv_aload_n hx hb dX9_longestDelay_11 rfl (lv_at hl 2 rfl) ?_
  refine va_get (D := D) (ci := 9) (v := .ref a1) (C := RX9) (T := TX9) (N := 18) hx hb hts iX9_longestDelay_9 hown hN.1 hP 0 rfl rfl 8 (by decide) (hts _ mX9_longestDelay_1) (fun _ h9 => h9) rfl dX9_longestDelay_12 ?_
  refine lv_bipush (v := 119) hx hb dX9_longestDelay_15 (by decide) ?_
  refine lv_iload_n hx hb dX9_longestDelay_17 rfl (lv_at hl 0 rfl) ?_
  refine lv_iadd hx hb dX9_longestDelay_18 ?_
  refine tp_i (161) (by decide) ?_
  refine ld_i (v := 0) hx hb hN hP 1 rfl (vin (by decide +kernel)) (by first | rfl | decide +kernel) dX9_longestDelay_19 ?_
  refine cs_i (As := [.int 0, .int 0]) (rest := []) (wr := [(a0, .inr (9, [.int 0, .ref a2, .int 0, .int 0, .int 0, .int 0, .int 0, .int (-1), .ref a1, .ref a3, .ref a4, .ref a5, .int 1, .int 0, .int 0, .int 0, .int 0, .ref a6])), (a1, .inl (cs 0, 45783, .inl (layF (fun _ => 0) 1)))]) ⟨hx, hb, hml, hown, hts⟩ (fun sz => k145_X9_max l D cs sz ) (va_cwS 2 hts gX9_longestDelay_X9_max rfl rfl rfl hdX9_max_o ⟨Nat.le_of_ble_eq_true rfl, Nat.le_of_ble_eq_true rfl⟩) hN hP hD hS hA [] [0, 1] rfl rfl rfl rfl (by decide) rfl rfl hl.1 (Nat.le_of_ble_eq_true rfl) dX9_longestDelay_20 (Nat.le_of_ble_eq_true rfl) (Nat.le_of_ble_eq_true rfl) (fun u42 H locs hP hD hS => ?_)
  have hP : va_P D vwCl [(a0, .inr (9, [.int 0, .ref a2, .int 0, .int 0, .int 0, .int 0, .int 0, .int (-1), .ref a1, .ref a3, .ref a4, .ref a5, .int 1, .int 0, .int 0, .int 0, .int 0, .ref a6])), (a1, .inl (cs 0, 45783, .inl (layF (fun _ => 0) 1)))] H := hP
  have hD : va_D A [(a0, .inr (9, [.int 0, .ref a2, .int 0, .int 0, .int 0, .int 0, .int 0, .int (-1), .ref a1, .ref a3, .ref a4, .ref a5, .int 1, .int 0, .int 0, .int 0, .int 0, .ref a6])), (a1, .inl (cs 0, 45783, .inl (layF (fun _ => 0) 1)))] := hD
  refine W.widen (k := 0) (n := 0) (Nat.le_of_ble_eq_true rfl) (Nat.le_of_ble_eq_true rfl) ?_
  refine lv_istore_n (lv' := [(1, .int 0), (2, .int 42), (0, .ref a0)]) hx hb dX9_longestDelay_23 rfl hl (by decide) rfl (fun ls hl => ?_)
  refine lv_iinc (v := 43) (lv' := [(2, .int 43), (1, .int 0), (0, .ref a0)]) hx hb dX9_longestDelay_24 hl (k := 1) rfl (by decide) (by decide) rfl (fun ls hl => ?_)
  refine lv_goto (tgt := 4) hx hb dX9_longestDelay_27 (by decide) ?_
  refine lv_iload_n hx hb dX9_longestDelay_4 rfl (lv_at hl 0 rfl) ?_
  refine lv_bipush (v := 64) hx hb dX9_longestDelay_5 (by decide) ?_
  refine lv_icmp_ge (tgt := 30) hx hb dX9_longestDelay_7 (by decide) (fun c9 => absurd c9 (by decide)) (fun _ => ?_)
  refine lv_iload_n hx hb dX9_longestDelay_10 rfl (lv_at hl 1 rfl) ?_
  refine lv_aload_n hx hb dX9_longestDelay_11 rfl (lv_at hl 2 rfl) ?_
  refine va_get (D := D) (ci := 9) (v := .ref a1) (C := RX9) (T := TX9) (N := 18) hx hb hts iX9_longestDelay_9 hown hN.1 hP 0 rfl rfl 8 (by decide) (hts _ mX9_longestDelay_1) (fun _ h9 => h9) rfl dX9_longestDelay_12 ?_
  refine lv_bipush (v := 119) hx hb dX9_longestDelay_15 (by decide) ?_
  refine lv_iload_n hx hb dX9_longestDelay_17 rfl (lv_at hl 0 rfl) ?_
  refine lv_iadd hx hb dX9_longestDelay_18 ?_
  refine tp_i (162) (by decide) ?_
  refine ld_i (v := 0) hx hb hN hP 1 rfl (vin (by decide +kernel)) (by first | rfl | decide +kernel) dX9_longestDelay_19 ?_
  refine cs_i (As := [.int 0, .int 0]) (rest := []) (wr := [(a0, .inr (9, [.int 0, .ref a2, .int 0, .int 0, .int 0, .int 0, .int 0, .int (-1), .ref a1, .ref a3, .ref a4, .ref a5, .int 1, .int 0, .int 0, .int 0, .int 0, .ref a6])), (a1, .inl (cs 0, 45783, .inl (layF (fun _ => 0) 1)))]) ⟨hx, hb, hml, hown, hts⟩ (fun sz => k145_X9_max l D cs sz ) (va_cwS 2 hts gX9_longestDelay_X9_max rfl rfl rfl hdX9_max_o ⟨Nat.le_of_ble_eq_true rfl, Nat.le_of_ble_eq_true rfl⟩) hN hP hD hS hA [] [0, 1] rfl rfl rfl rfl (by decide) rfl rfl hl.1 (Nat.le_of_ble_eq_true rfl) dX9_longestDelay_20 (Nat.le_of_ble_eq_true rfl) (Nat.le_of_ble_eq_true rfl) (fun u43 H locs hP hD hS => ?_)
  have hP : va_P D vwCl [(a0, .inr (9, [.int 0, .ref a2, .int 0, .int 0, .int 0, .int 0, .int 0, .int (-1), .ref a1, .ref a3, .ref a4, .ref a5, .int 1, .int 0, .int 0, .int 0, .int 0, .ref a6])), (a1, .inl (cs 0, 45783, .inl (layF (fun _ => 0) 1)))] H := hP
  have hD : va_D A [(a0, .inr (9, [.int 0, .ref a2, .int 0, .int 0, .int 0, .int 0, .int 0, .int (-1), .ref a1, .ref a3, .ref a4, .ref a5, .int 1, .int 0, .int 0, .int 0, .int 0, .ref a6])), (a1, .inl (cs 0, 45783, .inl (layF (fun _ => 0) 1)))] := hD
  refine W.widen (k := 0) (n := 0) (Nat.le_of_ble_eq_true rfl) (Nat.le_of_ble_eq_true rfl) ?_
  refine lv_istore_n (lv' := [(1, .int 0), (2, .int 43), (0, .ref a0)]) hx hb dX9_longestDelay_23 rfl hl (by decide) rfl (fun ls hl => ?_)
  refine lv_iinc (v := 44) (lv' := [(2, .int 44), (1, .int 0), (0, .ref a0)]) hx hb dX9_longestDelay_24 hl (k := 1) rfl (by decide) (by decide) rfl (fun ls hl => ?_)
  refine lv_goto (tgt := 4) hx hb dX9_longestDelay_27 (by decide) ?_
  refine lv_iload_n hx hb dX9_longestDelay_4 rfl (lv_at hl 0 rfl) ?_
  refine lv_bipush (v := 64) hx hb dX9_longestDelay_5 (by decide) ?_
  refine lv_icmp_ge (tgt := 30) hx hb dX9_longestDelay_7 (by decide) (fun c9 => absurd c9 (by decide)) (fun _ => ?_)
  refine lv_iload_n hx hb dX9_longestDelay_10 rfl (lv_at hl 1 rfl) ?_
  refine lv_aload_n hx hb dX9_longestDelay_11 rfl (lv_at hl 2 rfl) ?_
  refine va_get (D := D) (ci := 9) (v := .ref a1) (C := RX9) (T := TX9) (N := 18) hx hb hts iX9_longestDelay_9 hown hN.1 hP 0 rfl rfl 8 (by decide) (hts _ mX9_longestDelay_1) (fun _ h9 => h9) rfl dX9_longestDelay_12 ?_
  refine lv_bipush (v := 119) hx hb dX9_longestDelay_15 (by decide) ?_
  refine lv_iload_n hx hb dX9_longestDelay_17 rfl (lv_at hl 0 rfl) ?_
  refine lv_iadd hx hb dX9_longestDelay_18 ?_
  refine tp_i (163) (by decide) ?_
  refine ld_i (v := 0) hx hb hN hP 1 rfl (vin (by decide +kernel)) (by first | rfl | decide +kernel) dX9_longestDelay_19 ?_
  refine cs_i (As := [.int 0, .int 0]) (rest := []) (wr := [(a0, .inr (9, [.int 0, .ref a2, .int 0, .int 0, .int 0, .int 0, .int 0, .int (-1), .ref a1, .ref a3, .ref a4, .ref a5, .int 1, .int 0, .int 0, .int 0, .int 0, .ref a6])), (a1, .inl (cs 0, 45783, .inl (layF (fun _ => 0) 1)))]) ⟨hx, hb, hml, hown, hts⟩ (fun sz => k145_X9_max l D cs sz ) (va_cwS 2 hts gX9_longestDelay_X9_max rfl rfl rfl hdX9_max_o ⟨Nat.le_of_ble_eq_true rfl, Nat.le_of_ble_eq_true rfl⟩) hN hP hD hS hA [] [0, 1] rfl rfl rfl rfl (by decide) rfl rfl hl.1 (Nat.le_of_ble_eq_true rfl) dX9_longestDelay_20 (Nat.le_of_ble_eq_true rfl) (Nat.le_of_ble_eq_true rfl) (fun u44 H locs hP hD hS => ?_)
  have hP : va_P D vwCl [(a0, .inr (9, [.int 0, .ref a2, .int 0, .int 0, .int 0, .int 0, .int 0, .int (-1), .ref a1, .ref a3, .ref a4, .ref a5, .int 1, .int 0, .int 0, .int 0, .int 0, .ref a6])), (a1, .inl (cs 0, 45783, .inl (layF (fun _ => 0) 1)))] H := hP
  have hD : va_D A [(a0, .inr (9, [.int 0, .ref a2, .int 0, .int 0, .int 0, .int 0, .int 0, .int (-1), .ref a1, .ref a3, .ref a4, .ref a5, .int 1, .int 0, .int 0, .int 0, .int 0, .ref a6])), (a1, .inl (cs 0, 45783, .inl (layF (fun _ => 0) 1)))] := hD
  refine W.widen (k := 0) (n := 0) (Nat.le_of_ble_eq_true rfl) (Nat.le_of_ble_eq_true rfl) ?_
  refine lv_istore_n (lv' := [(1, .int 0), (2, .int 44), (0, .ref a0)]) hx hb dX9_longestDelay_23 rfl hl (by decide) rfl (fun ls hl => ?_)
  refine lv_iinc (v := 45) (lv' := [(2, .int 45), (1, .int 0), (0, .ref a0)]) hx hb dX9_longestDelay_24 hl (k := 1) rfl (by decide) (by decide) rfl (fun ls hl => ?_)
  refine lv_goto (tgt := 4) hx hb dX9_longestDelay_27 (by decide) ?_
  refine lv_iload_n hx hb dX9_longestDelay_4 rfl (lv_at hl 0 rfl) ?_
  refine lv_bipush (v := 64) hx hb dX9_longestDelay_5 (by decide) ?_
  refine lv_icmp_ge (tgt := 30) hx hb dX9_longestDelay_7 (by decide) (fun c9 => absurd c9 (by decide)) (fun _ => ?_)
  refine lv_iload_n hx hb dX9_longestDelay_10 rfl (lv_at hl 1 rfl) ?_
  refine lv_aload_n hx hb dX9_longestDelay_11 rfl (lv_at hl 2 rfl) ?_
  refine va_get (D := D) (ci := 9) (v := .ref a1) (C := RX9) (T := TX9) (N := 18) hx hb hts iX9_longestDelay_9 hown hN.1 hP 0 rfl rfl 8 (by decide) (hts _ mX9_longestDelay_1) (fun _ h9 => h9) rfl dX9_longestDelay_12 ?_
  refine lv_bipush (v := 119) hx hb dX9_longestDelay_15 (by decide) ?_
  refine lv_iload_n hx hb dX9_longestDelay_17 rfl (lv_at hl 0 rfl) ?_
  refine lv_iadd hx hb dX9_longestDelay_18 ?_
  refine tp_i (164) (by decide) ?_
  refine ld_i (v := 0) hx hb hN hP 1 rfl (vin (by decide +kernel)) (by first | rfl | decide +kernel) dX9_longestDelay_19 ?_
  refine cs_i (As := [.int 0, .int 0]) (rest := []) (wr := [(a0, .inr (9, [.int 0, .ref a2, .int 0, .int 0, .int 0, .int 0, .int 0, .int (-1), .ref a1, .ref a3, .ref a4, .ref a5, .int 1, .int 0, .int 0, .int 0, .int 0, .ref a6])), (a1, .inl (cs 0, 45783, .inl (layF (fun _ => 0) 1)))]) ⟨hx, hb, hml, hown, hts⟩ (fun sz => k145_X9_max l D cs sz ) (va_cwS 2 hts gX9_longestDelay_X9_max rfl rfl rfl hdX9_max_o ⟨Nat.le_of_ble_eq_true rfl, Nat.le_of_ble_eq_true rfl⟩) hN hP hD hS hA [] [0, 1] rfl rfl rfl rfl (by decide) rfl rfl hl.1 (Nat.le_of_ble_eq_true rfl) dX9_longestDelay_20 (Nat.le_of_ble_eq_true rfl) (Nat.le_of_ble_eq_true rfl) (fun u45 H locs hP hD hS => ?_)
  have hP : va_P D vwCl [(a0, .inr (9, [.int 0, .ref a2, .int 0, .int 0, .int 0, .int 0, .int 0, .int (-1), .ref a1, .ref a3, .ref a4, .ref a5, .int 1, .int 0, .int 0, .int 0, .int 0, .ref a6])), (a1, .inl (cs 0, 45783, .inl (layF (fun _ => 0) 1)))] H := hP
  have hD : va_D A [(a0, .inr (9, [.int 0, .ref a2, .int 0, .int 0, .int 0, .int 0, .int 0, .int (-1), .ref a1, .ref a3, .ref a4, .ref a5, .int 1, .int 0, .int 0, .int 0, .int 0, .ref a6])), (a1, .inl (cs 0, 45783, .inl (layF (fun _ => 0) 1)))] := hD
  refine W.widen (k := 0) (n := 0) (Nat.le_of_ble_eq_true rfl) (Nat.le_of_ble_eq_true rfl) ?_
  refine lv_istore_n (lv' := [(1, .int 0), (2, .int 45), (0, .ref a0)]) hx hb dX9_longestDelay_23 rfl hl (by decide) rfl (fun ls hl => ?_)
  refine lv_iinc (v := 46) (lv' := [(2, .int 46), (1, .int 0), (0, .ref a0)]) hx hb dX9_longestDelay_24 hl (k := 1) rfl (by decide) (by decide) rfl (fun ls hl => ?_)
  refine lv_goto (tgt := 4) hx hb dX9_longestDelay_27 (by decide) ?_
  refine lv_iload_n hx hb dX9_longestDelay_4 rfl (lv_at hl 0 rfl) ?_
  refine lv_bipush (v := 64) hx hb dX9_longestDelay_5 (by decide) ?_
  refine lv_icmp_ge (tgt := 30) hx hb dX9_longestDelay_7 (by decide) (fun c9 => absurd c9 (by decide)) (fun _ => ?_)
  refine lv_iload_n hx hb dX9_longestDelay_10 rfl (lv_at hl 1 rfl) ?_
  refine lv_aload_n hx hb dX9_longestDelay_11 rfl (lv_at hl 2 rfl) ?_
  refine va_get (D := D) (ci := 9) (v := .ref a1) (C := RX9) (T := TX9) (N := 18) hx hb hts iX9_longestDelay_9 hown hN.1 hP 0 rfl rfl 8 (by decide) (hts _ mX9_longestDelay_1) (fun _ h9 => h9) rfl dX9_longestDelay_12 ?_
  refine lv_bipush (v := 119) hx hb dX9_longestDelay_15 (by decide) ?_
  refine lv_iload_n hx hb dX9_longestDelay_17 rfl (lv_at hl 0 rfl) ?_
  refine lv_iadd hx hb dX9_longestDelay_18 ?_
  refine tp_i (165) (by decide) ?_
  refine ld_i (v := 0) hx hb hN hP 1 rfl (vin (by decide +kernel)) (by first | rfl | decide +kernel) dX9_longestDelay_19 ?_
  refine cs_i (As := [.int 0, .int 0]) (rest := []) (wr := [(a0, .inr (9, [.int 0, .ref a2, .int 0, .int 0, .int 0, .int 0, .int 0, .int (-1), .ref a1, .ref a3, .ref a4, .ref a5, .int 1, .int 0, .int 0, .int 0, .int 0, .ref a6])), (a1, .inl (cs 0, 45783, .inl (layF (fun _ => 0) 1)))]) ⟨hx, hb, hml, hown, hts⟩ (fun sz => k145_X9_max l D cs sz ) (va_cwS 2 hts gX9_longestDelay_X9_max rfl rfl rfl hdX9_max_o ⟨Nat.le_of_ble_eq_true rfl, Nat.le_of_ble_eq_true rfl⟩) hN hP hD hS hA [] [0, 1] rfl rfl rfl rfl (by decide) rfl rfl hl.1 (Nat.le_of_ble_eq_true rfl) dX9_longestDelay_20 (Nat.le_of_ble_eq_true rfl) (Nat.le_of_ble_eq_true rfl) (fun u46 H locs hP hD hS => ?_)
  have hP : va_P D vwCl [(a0, .inr (9, [.int 0, .ref a2, .int 0, .int 0, .int 0, .int 0, .int 0, .int (-1), .ref a1, .ref a3, .ref a4, .ref a5, .int 1, .int 0, .int 0, .int 0, .int 0, .ref a6])), (a1, .inl (cs 0, 45783, .inl (layF (fun _ => 0) 1)))] H := hP
  have hD : va_D A [(a0, .inr (9, [.int 0, .ref a2, .int 0, .int 0, .int 0, .int 0, .int 0, .int (-1), .ref a1, .ref a3, .ref a4, .ref a5, .int 1, .int 0, .int 0, .int 0, .int 0, .ref a6])), (a1, .inl (cs 0, 45783, .inl (layF (fun _ => 0) 1)))] := hD
  refine W.widen (k := 0) (n := 0) (Nat.le_of_ble_eq_true rfl) (Nat.le_of_ble_eq_true rfl) ?_
  refine lv_istore_n (lv' := [(1, .int 0), (2, .int 46), (0, .ref a0)]) hx hb dX9_longestDelay_23 rfl hl (by decide) rfl (fun ls hl => ?_)
  refine lv_iinc (v := 47) (lv' := [(2, .int 47), (1, .int 0), (0, .ref a0)]) hx hb dX9_longestDelay_24 hl (k := 1) rfl (by decide) (by decide) rfl (fun ls hl => ?_)
  refine lv_goto (tgt := 4) hx hb dX9_longestDelay_27 (by decide) ?_
  refine lv_iload_n hx hb dX9_longestDelay_4 rfl (lv_at hl 0 rfl) ?_
  refine lv_bipush (v := 64) hx hb dX9_longestDelay_5 (by decide) ?_
  refine lv_icmp_ge (tgt := 30) hx hb dX9_longestDelay_7 (by decide) (fun c9 => absurd c9 (by decide)) (fun _ => ?_)
  refine lv_iload_n hx hb dX9_longestDelay_10 rfl (lv_at hl 1 rfl) ?_
  refine lv_aload_n hx hb dX9_longestDelay_11 rfl (lv_at hl 2 rfl) ?_
  refine va_get (D := D) (ci := 9) (v := .ref a1) (C := RX9) (T := TX9) (N := 18) hx hb hts iX9_longestDelay_9 hown hN.1 hP 0 rfl rfl 8 (by decide) (hts _ mX9_longestDelay_1) (fun _ h9 => h9) rfl dX9_longestDelay_12 ?_
  refine lv_bipush (v := 119) hx hb dX9_longestDelay_15 (by decide) ?_
  refine lv_iload_n hx hb dX9_longestDelay_17 rfl (lv_at hl 0 rfl) ?_
  refine lv_iadd hx hb dX9_longestDelay_18 ?_
  refine tp_i (166) (by decide) ?_
  refine ld_i (v := 0) hx hb hN hP 1 rfl (vin (by decide +kernel)) (by first | rfl | decide +kernel) dX9_longestDelay_19 ?_
  refine cs_i (As := [.int 0, .int 0]) (rest := []) (wr := [(a0, .inr (9, [.int 0, .ref a2, .int 0, .int 0, .int 0, .int 0, .int 0, .int (-1), .ref a1, .ref a3, .ref a4, .ref a5, .int 1, .int 0, .int 0, .int 0, .int 0, .ref a6])), (a1, .inl (cs 0, 45783, .inl (layF (fun _ => 0) 1)))]) ⟨hx, hb, hml, hown, hts⟩ (fun sz => k145_X9_max l D cs sz ) (va_cwS 2 hts gX9_longestDelay_X9_max rfl rfl rfl hdX9_max_o ⟨Nat.le_of_ble_eq_true rfl, Nat.le_of_ble_eq_true rfl⟩) hN hP hD hS hA [] [0, 1] rfl rfl rfl rfl (by decide) rfl rfl hl.1 (Nat.le_of_ble_eq_true rfl) dX9_longestDelay_20 (Nat.le_of_ble_eq_true rfl) (Nat.le_of_ble_eq_true rfl) (fun u47 H locs hP hD hS => ?_)
  have hP : va_P D vwCl [(a0, .inr (9, [.int 0, .ref a2, .int 0, .int 0, .int 0, .int 0, .int 0, .int (-1), .ref a1, .ref a3, .ref a4, .ref a5, .int 1, .int 0, .int 0, .int 0, .int 0, .ref a6])), (a1, .inl (cs 0, 45783, .inl (layF (fun _ => 0) 1)))] H := hP
  have hD : va_D A [(a0, .inr (9, [.int 0, .ref a2, .int 0, .int 0, .int 0, .int 0, .int 0, .int (-1), .ref a1, .ref a3, .ref a4, .ref a5, .int 1, .int 0, .int 0, .int 0, .int 0, .ref a6])), (a1, .inl (cs 0, 45783, .inl (layF (fun _ => 0) 1)))] := hD
  refine W.widen (k := 0) (n := 0) (Nat.le_of_ble_eq_true rfl) (Nat.le_of_ble_eq_true rfl) ?_
  refine lv_istore_n (lv' := [(1, .int 0), (2, .int 47), (0, .ref a0)]) hx hb dX9_longestDelay_23 rfl hl (by decide) rfl (fun ls hl => ?_)
  refine lv_iinc (v := 48) (lv' := [(2, .int 48), (1, .int 0), (0, .ref a0)]) hx hb dX9_longestDelay_24 hl (k := 1) rfl (by decide) (by decide) rfl (fun ls hl => ?_)
  refine lv_goto (tgt := 4) hx hb dX9_longestDelay_27 (by decide) ?_
  refine lv_iload_n hx hb dX9_longestDelay_4 rfl (lv_at hl 0 rfl) ?_
  refine lv_bipush (v := 64) hx hb dX9_longestDelay_5 (by decide) ?_
  refine lv_icmp_ge (tgt := 30) hx hb dX9_longestDelay_7 (by decide) (fun c9 => absurd c9 (by decide)) (fun _ => ?_)
  refine lv_iload_n hx hb dX9_longestDelay_10 rfl (lv_at hl 1 rfl) ?_
  refine lv_aload_n hx hb dX9_longestDelay_11 rfl (lv_at hl 2 rfl) ?_
  refine va_get (D := D) (ci := 9) (v := .ref a1) (C := RX9) (T := TX9) (N := 18) hx hb hts iX9_longestDelay_9 hown hN.1 hP 0 rfl rfl 8 (by decide) (hts _ mX9_longestDelay_1) (fun _ h9 => h9) rfl dX9_longestDelay_12 ?_
  refine lv_bipush (v := 119) hx hb dX9_longestDelay_15 (by decide) ?_
  refine lv_iload_n hx hb dX9_longestDelay_17 rfl (lv_at hl 0 rfl) ?_
  refine lv_iadd hx hb dX9_longestDelay_18 ?_
  refine tp_i (167) (by decide) ?_
  refine ld_i (v := 0) hx hb hN hP 1 rfl (vin (by decide +kernel)) (by first | rfl | decide +kernel) dX9_longestDelay_19 ?_
  refine cs_i (As := [.int 0, .int 0]) (rest := []) (wr := [(a0, .inr (9, [.int 0, .ref a2, .int 0, .int 0, .int 0, .int 0, .int 0, .int (-1), .ref a1, .ref a3, .ref a4, .ref a5, .int 1, .int 0, .int 0, .int 0, .int 0, .ref a6])), (a1, .inl (cs 0, 45783, .inl (layF (fun _ => 0) 1)))]) ⟨hx, hb, hml, hown, hts⟩ (fun sz => k145_X9_max l D cs sz ) (va_cwS 2 hts gX9_longestDelay_X9_max rfl rfl rfl hdX9_max_o ⟨Nat.le_of_ble_eq_true rfl, Nat.le_of_ble_eq_true rfl⟩) hN hP hD hS hA [] [0, 1] rfl rfl rfl rfl (by decide) rfl rfl hl.1 (Nat.le_of_ble_eq_true rfl) dX9_longestDelay_20 (Nat.le_of_ble_eq_true rfl) (Nat.le_of_ble_eq_true rfl) (fun u48 H locs hP hD hS => ?_)
  have hP : va_P D vwCl [(a0, .inr (9, [.int 0, .ref a2, .int 0, .int 0, .int 0, .int 0, .int 0, .int (-1), .ref a1, .ref a3, .ref a4, .ref a5, .int 1, .int 0, .int 0, .int 0, .int 0, .ref a6])), (a1, .inl (cs 0, 45783, .inl (layF (fun _ => 0) 1)))] H := hP
  have hD : va_D A [(a0, .inr (9, [.int 0, .ref a2, .int 0, .int 0, .int 0, .int 0, .int 0, .int (-1), .ref a1, .ref a3, .ref a4, .ref a5, .int 1, .int 0, .int 0, .int 0, .int 0, .ref a6])), (a1, .inl (cs 0, 45783, .inl (layF (fun _ => 0) 1)))] := hD
  refine W.widen (k := 0) (n := 0) (Nat.le_of_ble_eq_true rfl) (Nat.le_of_ble_eq_true rfl) ?_
  refine lv_istore_n (lv' := [(1, .int 0), (2, .int 48), (0, .ref a0)]) hx hb dX9_longestDelay_23 rfl hl (by decide) rfl (fun ls hl => ?_)
  refine lv_iinc (v := 49) (lv' := [(2, .int 49), (1, .int 0), (0, .ref a0)]) hx hb dX9_longestDelay_24 hl (k := 1) rfl (by decide) (by decide) rfl (fun ls hl => ?_)
  refine lv_goto (tgt := 4) hx hb dX9_longestDelay_27 (by decide) ?_
  refine lv_iload_n hx hb dX9_longestDelay_4 rfl (lv_at hl 0 rfl) ?_
  refine lv_bipush (v := 64) hx hb dX9_longestDelay_5 (by decide) ?_
  refine lv_icmp_ge (tgt := 30) hx hb dX9_longestDelay_7 (by decide) (fun c9 => absurd c9 (by decide)) (fun _ => ?_)
  refine lv_iload_n hx hb dX9_longestDelay_10 rfl (lv_at hl 1 rfl) ?_
  refine lv_aload_n hx hb dX9_longestDelay_11 rfl (lv_at hl 2 rfl) ?_
  refine va_get (D := D) (ci := 9) (v := .ref a1) (C := RX9) (T := TX9) (N := 18) hx hb hts iX9_longestDelay_9 hown hN.1 hP 0 rfl rfl 8 (by decide) (hts _ mX9_longestDelay_1) (fun _ h9 => h9) rfl dX9_longestDelay_12 ?_
  refine lv_bipush (v := 119) hx hb dX9_longestDelay_15 (by decide) ?_
  refine lv_iload_n hx hb dX9_longestDelay_17 rfl (lv_at hl 0 rfl) ?_
  refine lv_iadd hx hb dX9_longestDelay_18 ?_
  refine tp_i (168) (by decide) ?_
  refine ld_i (v := 0) hx hb hN hP 1 rfl (vin (by decide +kernel)) (by first | rfl | decide +kernel) dX9_longestDelay_19 ?_
  refine cs_i (As := [.int 0, .int 0]) (rest := []) (wr := [(a0, .inr (9, [.int 0, .ref a2, .int 0, .int 0, .int 0, .int 0, .int 0, .int (-1), .ref a1, .ref a3, .ref a4, .ref a5, .int 1, .int 0, .int 0, .int 0, .int 0, .ref a6])), (a1, .inl (cs 0, 45783, .inl (layF (fun _ => 0) 1)))]) ⟨hx, hb, hml, hown, hts⟩ (fun sz => k145_X9_max l D cs sz ) (va_cwS 2 hts gX9_longestDelay_X9_max rfl rfl rfl hdX9_max_o ⟨Nat.le_of_ble_eq_true rfl, Nat.le_of_ble_eq_true rfl⟩) hN hP hD hS hA [] [0, 1] rfl rfl rfl rfl (by decide) rfl rfl hl.1 (Nat.le_of_ble_eq_true rfl) dX9_longestDelay_20 (Nat.le_of_ble_eq_true rfl) (Nat.le_of_ble_eq_true rfl) (fun u49 H locs hP hD hS => ?_)
  have hP : va_P D vwCl [(a0, .inr (9, [.int 0, .ref a2, .int 0, .int 0, .int 0, .int 0, .int 0, .int (-1), .ref a1, .ref a3, .ref a4, .ref a5, .int 1, .int 0, .int 0, .int 0, .int 0, .ref a6])), (a1, .inl (cs 0, 45783, .inl (layF (fun _ => 0) 1)))] H := hP
  have hD : va_D A [(a0, .inr (9, [.int 0, .ref a2, .int 0, .int 0, .int 0, .int 0, .int 0, .int (-1), .ref a1, .ref a3, .ref a4, .ref a5, .int 1, .int 0, .int 0, .int 0, .int 0, .ref a6])), (a1, .inl (cs 0, 45783, .inl (layF (fun _ => 0) 1)))] := hD
  refine W.widen (k := 0) (n := 0) (Nat.le_of_ble_eq_true rfl) (Nat.le_of_ble_eq_true rfl) ?_
  refine lv_istore_n (lv' := [(1, .int 0), (2, .int 49), (0, .ref a0)]) hx hb dX9_longestDelay_23 rfl hl (by decide) rfl (fun ls hl => ?_)
  refine lv_iinc (v := 50) (lv' := [(2, .int 50), (1, .int 0), (0, .ref a0)]) hx hb dX9_longestDelay_24 hl (k := 1) rfl (by decide) (by decide) rfl (fun ls hl => ?_)
  refine lv_goto (tgt := 4) hx hb dX9_longestDelay_27 (by decide) ?_
  refine lv_iload_n hx hb dX9_longestDelay_4 rfl (lv_at hl 0 rfl) ?_
  refine lv_bipush (v := 64) hx hb dX9_longestDelay_5 (by decide) ?_
  refine lv_icmp_ge (tgt := 30) hx hb dX9_longestDelay_7 (by decide) (fun c9 => absurd c9 (by decide)) (fun _ => ?_)
  refine lv_iload_n hx hb dX9_longestDelay_10 rfl (lv_at hl 1 rfl) ?_
  refine lv_aload_n hx hb dX9_longestDelay_11 rfl (lv_at hl 2 rfl) ?_
  refine va_get (D := D) (ci := 9) (v := .ref a1) (C := RX9) (T := TX9) (N := 18) hx hb hts iX9_longestDelay_9 hown hN.1 hP 0 rfl rfl 8 (by decide) (hts _ mX9_longestDelay_1) (fun _ h9 => h9) rfl dX9_longestDelay_12 ?_
  refine lv_bipush (v := 119) hx hb dX9_longestDelay_15 (by decide) ?_
  refine lv_iload_n hx hb dX9_longestDelay_17 rfl (lv_at hl 0 rfl) ?_
  refine lv_iadd hx hb dX9_longestDelay_18 ?_
  refine tp_i (169) (by decide) ?_
  refine ld_i (v := 0) hx hb hN hP 1 rfl (vin (by decide +kernel)) (by first | rfl | decide +kernel) dX9_longestDelay_19 ?_
  refine cs_i (As := [.int 0, .int 0]) (rest := []) (wr := [(a0, .inr (9, [.int 0, .ref a2, .int 0, .int 0, .int 0, .int 0, .int 0, .int (-1), .ref a1, .ref a3, .ref a4, .ref a5, .int 1, .int 0, .int 0, .int 0, .int 0, .ref a6])), (a1, .inl (cs 0, 45783, .inl (layF (fun _ => 0) 1)))]) ⟨hx, hb, hml, hown, hts⟩ (fun sz => k145_X9_max l D cs sz ) (va_cwS 2 hts gX9_longestDelay_X9_max rfl rfl rfl hdX9_max_o ⟨Nat.le_of_ble_eq_true rfl, Nat.le_of_ble_eq_true rfl⟩) hN hP hD hS hA [] [0, 1] rfl rfl rfl rfl (by decide) rfl rfl hl.1 (Nat.le_of_ble_eq_true rfl) dX9_longestDelay_20 (Nat.le_of_ble_eq_true rfl) (Nat.le_of_ble_eq_true rfl) (fun u50 H locs hP hD hS => ?_)
  have hP : va_P D vwCl [(a0, .inr (9, [.int 0, .ref a2, .int 0, .int 0, .int 0, .int 0, .int 0, .int (-1), .ref a1, .ref a3, .ref a4, .ref a5, .int 1, .int 0, .int 0, .int 0, .int 0, .ref a6])), (a1, .inl (cs 0, 45783, .inl (layF (fun _ => 0) 1)))] H := hP
  have hD : va_D A [(a0, .inr (9, [.int 0, .ref a2, .int 0, .int 0, .int 0, .int 0, .int 0, .int (-1), .ref a1, .ref a3, .ref a4, .ref a5, .int 1, .int 0, .int 0, .int 0, .int 0, .ref a6])), (a1, .inl (cs 0, 45783, .inl (layF (fun _ => 0) 1)))] := hD
  refine W.widen (k := 0) (n := 0) (Nat.le_of_ble_eq_true rfl) (Nat.le_of_ble_eq_true rfl) ?_
  refine lv_istore_n (lv' := [(1, .int 0), (2, .int 50), (0, .ref a0)]) hx hb dX9_longestDelay_23 rfl hl (by decide) rfl (fun ls hl => ?_)
  refine lv_iinc (v := 51) (lv' := [(2, .int 51), (1, .int 0), (0, .ref a0)]) hx hb dX9_longestDelay_24 hl (k := 1) rfl (by decide) (by decide) rfl (fun ls hl => ?_)
  refine lv_goto (tgt := 4) hx hb dX9_longestDelay_27 (by decide) ?_
  refine lv_iload_n hx hb dX9_longestDelay_4 rfl (lv_at hl 0 rfl) ?_
  refine lv_bipush (v := 64) hx hb dX9_longestDelay_5 (by decide) ?_
  refine lv_icmp_ge (tgt := 30) hx hb dX9_longestDelay_7 (by decide) (fun c9 => absurd c9 (by decide)) (fun _ => ?_)
  refine lv_iload_n hx hb dX9_longestDelay_10 rfl (lv_at hl 1 rfl) ?_
  refine lv_aload_n hx hb dX9_longestDelay_11 rfl (lv_at hl 2 rfl) ?_
  refine va_get (D := D) (ci := 9) (v := .ref a1) (C := RX9) (T := TX9) (N := 18) hx hb hts iX9_longestDelay_9 hown hN.1 hP 0 rfl rfl 8 (by decide) (hts _ mX9_longestDelay_1) (fun _ h9 => h9) rfl dX9_longestDelay_12 ?_
  refine lv_bipush (v := 119) hx hb dX9_longestDelay_15 (by decide) ?_
  refine lv_iload_n hx hb dX9_longestDelay_17 rfl (lv_at hl 0 rfl) ?_
  refine lv_iadd hx hb dX9_longestDelay_18 ?_
  refine tp_i (170) (by decide) ?_
  refine ld_i (v := 0) hx hb hN hP 1 rfl (vin (by decide +kernel)) (by first | rfl | decide +kernel) dX9_longestDelay_19 ?_
  refine cs_i (As := [.int 0, .int 0]) (rest := []) (wr := [(a0, .inr (9, [.int 0, .ref a2, .int 0, .int 0, .int 0, .int 0, .int 0, .int (-1), .ref a1, .ref a3, .ref a4, .ref a5, .int 1, .int 0, .int 0, .int 0, .int 0, .ref a6])), (a1, .inl (cs 0, 45783, .inl (layF (fun _ => 0) 1)))]) ⟨hx, hb, hml, hown, hts⟩ (fun sz => k145_X9_max l D cs sz ) (va_cwS 2 hts gX9_longestDelay_X9_max rfl rfl rfl hdX9_max_o ⟨Nat.le_of_ble_eq_true rfl, Nat.le_of_ble_eq_true rfl⟩) hN hP hD hS hA [] [0, 1] rfl rfl rfl rfl (by decide) rfl rfl hl.1 (Nat.le_of_ble_eq_true rfl) dX9_longestDelay_20 (Nat.le_of_ble_eq_true rfl) (Nat.le_of_ble_eq_true rfl) (fun u51 H locs hP hD hS => ?_)
  have hP : va_P D vwCl [(a0, .inr (9, [.int 0, .ref a2, .int 0, .int 0, .int 0, .int 0, .int 0, .int (-1), .ref a1, .ref a3, .ref a4, .ref a5, .int 1, .int 0, .int 0, .int 0, .int 0, .ref a6])), (a1, .inl (cs 0, 45783, .inl (layF (fun _ => 0) 1)))] H := hP
  have hD : va_D A [(a0, .inr (9, [.int 0, .ref a2, .int 0, .int 0, .int 0, .int 0, .int 0, .int (-1), .ref a1, .ref a3, .ref a4, .ref a5, .int 1, .int 0, .int 0, .int 0, .int 0, .ref a6])), (a1, .inl (cs 0, 45783, .inl (layF (fun _ => 0) 1)))] := hD
  refine W.widen (k := 0) (n := 0) (Nat.le_of_ble_eq_true rfl) (Nat.le_of_ble_eq_true rfl) ?_
  refine lv_istore_n (lv' := [(1, .int 0), (2, .int 51), (0, .ref a0)]) hx hb dX9_longestDelay_23 rfl hl (by decide) rfl (fun ls hl => ?_)
  refine lv_iinc (v := 52) (lv' := [(2, .int 52), (1, .int 0), (0, .ref a0)]) hx hb dX9_longestDelay_24 hl (k := 1) rfl (by decide) (by decide) rfl (fun ls hl => ?_)
  refine lv_goto (tgt := 4) hx hb dX9_longestDelay_27 (by decide) ?_
  refine lv_iload_n hx hb dX9_longestDelay_4 rfl (lv_at hl 0 rfl) ?_
  refine lv_bipush (v := 64) hx hb dX9_longestDelay_5 (by decide) ?_
  refine lv_icmp_ge (tgt := 30) hx hb dX9_longestDelay_7 (by decide) (fun c9 => absurd c9 (by decide)) (fun _ => ?_)
  refine lv_iload_n hx hb dX9_longestDelay_10 rfl (lv_at hl 1 rfl) ?_
  refine lv_aload_n hx hb dX9_longestDelay_11 rfl (lv_at hl 2 rfl) ?_
  refine va_get (D := D) (ci := 9) (v := .ref a1) (C := RX9) (T := TX9) (N := 18) hx hb hts iX9_longestDelay_9 hown hN.1 hP 0 rfl rfl 8 (by decide) (hts _ mX9_longestDelay_1) (fun _ h9 => h9) rfl dX9_longestDelay_12 ?_
  refine lv_bipush (v := 119) hx hb dX9_longestDelay_15 (by decide) ?_
  refine lv_iload_n hx hb dX9_longestDelay_17 rfl (lv_at hl 0 rfl) ?_
  refine lv_iadd hx hb dX9_longestDelay_18 ?_
  refine tp_i (171) (by decide) ?_
  refine ld_i (v := 0) hx hb hN hP 1 rfl (vin (by decide +kernel)) (by first | rfl | decide +kernel) dX9_longestDelay_19 ?_
  refine cs_i (As := [.int 0, .int 0]) (rest := []) (wr := [(a0, .inr (9, [.int 0, .ref a2, .int 0, .int 0, .int 0, .int 0, .int 0, .int (-1), .ref a1, .ref a3, .ref a4, .ref a5, .int 1, .int 0, .int 0, .int 0, .int 0, .ref a6])), (a1, .inl (cs 0, 45783, .inl (layF (fun _ => 0) 1)))]) ⟨hx, hb, hml, hown, hts⟩ (fun sz => k145_X9_max l D cs sz ) (va_cwS 2 hts gX9_longestDelay_X9_max rfl rfl rfl hdX9_max_o ⟨Nat.le_of_ble_eq_true rfl, Nat.le_of_ble_eq_true rfl⟩) hN hP hD hS hA [] [0, 1] rfl rfl rfl rfl (by decide) rfl rfl hl.1 (Nat.le_of_ble_eq_true rfl) dX9_longestDelay_20 (Nat.le_of_ble_eq_true rfl) (Nat.le_of_ble_eq_true rfl) (fun u52 H locs hP hD hS => ?_)
  have hP : va_P D vwCl [(a0, .inr (9, [.int 0, .ref a2, .int 0, .int 0, .int 0, .int 0, .int 0, .int (-1), .ref a1, .ref a3, .ref a4, .ref a5, .int 1, .int 0, .int 0, .int 0, .int 0, .ref a6])), (a1, .inl (cs 0, 45783, .inl (layF (fun _ => 0) 1)))] H := hP
  have hD : va_D A [(a0, .inr (9, [.int 0, .ref a2, .int 0, .int 0, .int 0, .int 0, .int 0, .int (-1), .ref a1, .ref a3, .ref a4, .ref a5, .int 1, .int 0, .int 0, .int 0, .int 0, .ref a6])), (a1, .inl (cs 0, 45783, .inl (layF (fun _ => 0) 1)))] := hD
  refine W.widen (k := 0) (n := 0) (Nat.le_of_ble_eq_true rfl) (Nat.le_of_ble_eq_true rfl) ?_
  refine lv_istore_n (lv' := [(1, .int 0), (2, .int 52), (0, .ref a0)]) hx hb dX9_longestDelay_23 rfl hl (by decide) rfl (fun ls hl => ?_)
  refine lv_iinc (v := 53) (lv' := [(2, .int 53), (1, .int 0), (0, .ref a0)]) hx hb dX9_longestDelay_24 hl (k := 1) rfl (by decide) (by decide) rfl (fun ls hl => ?_)
  refine lv_goto (tgt := 4) hx hb dX9_longestDelay_27 (by decide) ?_
  refine lv_iload_n hx hb dX9_longestDelay_4 rfl (lv_at hl 0 rfl) ?_
  refine lv_bipush (v := 64) hx hb dX9_longestDelay_5 (by decide) ?_
  refine lv_icmp_ge (tgt := 30) hx hb dX9_longestDelay_7 (by decide) (fun c9 => absurd c9 (by decide)) (fun _ => ?_)
  refine lv_iload_n hx hb dX9_longestDelay_10 rfl (lv_at hl 1 rfl) ?_
  refine lv_aload_n hx hb dX9_longestDelay_11 rfl (lv_at hl 2 rfl) ?_
  refine va_get (D := D) (ci := 9) (v := .ref a1) (C := RX9) (T := TX9) (N := 18) hx hb hts iX9_longestDelay_9 hown hN.1 hP 0 rfl rfl 8 (by decide) (hts _ mX9_longestDelay_1) (fun _ h9 => h9) rfl dX9_longestDelay_12 ?_
  refine lv_bipush (v := 119) hx hb dX9_longestDelay_15 (by decide) ?_
  refine lv_iload_n hx hb dX9_longestDelay_17 rfl (lv_at hl 0 rfl) ?_
  refine lv_iadd hx hb dX9_longestDelay_18 ?_
  refine tp_i (172) (by decide) ?_
  refine ld_i (v := 0) hx hb hN hP 1 rfl (vin (by decide +kernel)) (by first | rfl | decide +kernel) dX9_longestDelay_19 ?_
  refine cs_i (As := [.int 0, .int 0]) (rest := []) (wr := [(a0, .inr (9, [.int 0, .ref a2, .int 0, .int 0, .int 0, .int 0, .int 0, .int (-1), .ref a1, .ref a3, .ref a4, .ref a5, .int 1, .int 0, .int 0, .int 0, .int 0, .ref a6])), (a1, .inl (cs 0, 45783, .inl (layF (fun _ => 0) 1)))]) ⟨hx, hb, hml, hown, hts⟩ (fun sz => k145_X9_max l D cs sz ) (va_cwS 2 hts gX9_longestDelay_X9_max rfl rfl rfl hdX9_max_o ⟨Nat.le_of_ble_eq_true rfl, Nat.le_of_ble_eq_true rfl⟩) hN hP hD hS hA [] [0, 1] rfl rfl rfl rfl (by decide) rfl rfl hl.1 (Nat.le_of_ble_eq_true rfl) dX9_longestDelay_20 (Nat.le_of_ble_eq_true rfl) (Nat.le_of_ble_eq_true rfl) (fun u53 H locs hP hD hS => ?_)
  have hP : va_P D vwCl [(a0, .inr (9, [.int 0, .ref a2, .int 0, .int 0, .int 0, .int 0, .int 0, .int (-1), .ref a1, .ref a3, .ref a4, .ref a5, .int 1, .int 0, .int 0, .int 0, .int 0, .ref a6])), (a1, .inl (cs 0, 45783, .inl (layF (fun _ => 0) 1)))] H := hP
  have hD : va_D A [(a0, .inr (9, [.int 0, .ref a2, .int 0, .int 0, .int 0, .int 0, .int 0, .int (-1), .ref a1, .ref a3, .ref a4, .ref a5, .int 1, .int 0, .int 0, .int 0, .int 0, .ref a6])), (a1, .inl (cs 0, 45783, .inl (layF (fun _ => 0) 1)))] := hD
  refine W.widen (k := 0) (n := 0) (Nat.le_of_ble_eq_true rfl) (Nat.le_of_ble_eq_true rfl) ?_
  refine lv_istore_n (lv' := [(1, .int 0), (2, .int 53), (0, .ref a0)]) hx hb dX9_longestDelay_23 rfl hl (by decide) rfl (fun ls hl => ?_)
  refine lv_iinc (v := 54) (lv' := [(2, .int 54), (1, .int 0), (0, .ref a0)]) hx hb dX9_longestDelay_24 hl (k := 1) rfl (by decide) (by decide) rfl (fun ls hl => ?_)
  refine lv_goto (tgt := 4) hx hb dX9_longestDelay_27 (by decide) ?_
  refine lv_iload_n hx hb dX9_longestDelay_4 rfl (lv_at hl 0 rfl) ?_
  refine lv_bipush (v := 64) hx hb dX9_longestDelay_5 (by decide) ?_
  refine lv_icmp_ge (tgt := 30) hx hb dX9_longestDelay_7 (by decide) (fun c9 => absurd c9 (by decide)) (fun _ => ?_)
  refine lv_iload_n hx hb dX9_longestDelay_10 rfl (lv_at hl 1 rfl) ?_
  refine lv_aload_n hx hb dX9_longestDelay_11 rfl (lv_at hl 2 rfl) ?_
  refine va_get (D := D) (ci := 9) (v := .ref a1) (C := RX9) (T := TX9) (N := 18) hx hb hts iX9_longestDelay_9 hown hN.1 hP 0 rfl rfl 8 (by decide) (hts _ mX9_longestDelay_1) (fun _ h9 => h9) rfl dX9_longestDelay_12 ?_
  refine lv_bipush (v := 119) hx hb dX9_longestDelay_15 (by decide) ?_
  refine lv_iload_n hx hb dX9_longestDelay_17 rfl (lv_at hl 0 rfl) ?_
  refine lv_iadd hx hb dX9_longestDelay_18 ?_
  refine tp_i (173) (by decide) ?_
  refine ld_i (v := 0) hx hb hN hP 1 rfl (vin (by decide +kernel)) (by first | rfl | decide +kernel) dX9_longestDelay_19 ?_
  refine cs_i (As := [.int 0, .int 0]) (rest := []) (wr := [(a0, .inr (9, [.int 0, .ref a2, .int 0, .int 0, .int 0, .int 0, .int 0, .int (-1), .ref a1, .ref a3, .ref a4, .ref a5, .int 1, .int 0, .int 0, .int 0, .int 0, .ref a6])), (a1, .inl (cs 0, 45783, .inl (layF (fun _ => 0) 1)))]) ⟨hx, hb, hml, hown, hts⟩ (fun sz => k145_X9_max l D cs sz ) (va_cwS 2 hts gX9_longestDelay_X9_max rfl rfl rfl hdX9_max_o ⟨Nat.le_of_ble_eq_true rfl, Nat.le_of_ble_eq_true rfl⟩) hN hP hD hS hA [] [0, 1] rfl rfl rfl rfl (by decide) rfl rfl hl.1 (Nat.le_of_ble_eq_true rfl) dX9_longestDelay_20 (Nat.le_of_ble_eq_true rfl) (Nat.le_of_ble_eq_true rfl) (fun u54 H locs hP hD hS => ?_)
  have hP : va_P D vwCl [(a0, .inr (9, [.int 0, .ref a2, .int 0, .int 0, .int 0, .int 0, .int 0, .int (-1), .ref a1, .ref a3, .ref a4, .ref a5, .int 1, .int 0, .int 0, .int 0, .int 0, .ref a6])), (a1, .inl (cs 0, 45783, .inl (layF (fun _ => 0) 1)))] H := hP
  have hD : va_D A [(a0, .inr (9, [.int 0, .ref a2, .int 0, .int 0, .int 0, .int 0, .int 0, .int (-1), .ref a1, .ref a3, .ref a4, .ref a5, .int 1, .int 0, .int 0, .int 0, .int 0, .ref a6])), (a1, .inl (cs 0, 45783, .inl (layF (fun _ => 0) 1)))] := hD
  refine W.widen (k := 0) (n := 0) (Nat.le_of_ble_eq_true rfl) (Nat.le_of_ble_eq_true rfl) ?_
  refine lv_istore_n (lv' := [(1, .int 0), (2, .int 54), (0, .ref a0)]) hx hb dX9_longestDelay_23 rfl hl (by decide) rfl (fun ls hl => ?_)
  refine lv_iinc (v := 55) (lv' := [(2, .int 55), (1, .int 0), (0, .ref a0)]) hx hb dX9_longestDelay_24 hl (k := 1) rfl (by decide) (by decide) rfl (fun ls hl => ?_)
  refine lv_goto (tgt := 4) hx hb dX9_longestDelay_27 (by decide) ?_
  refine lv_iload_n hx hb dX9_longestDelay_4 rfl (lv_at hl 0 rfl) ?_
  refine lv_bipush (v := 64) hx hb dX9_longestDelay_5 (by decide) ?_
  refine lv_icmp_ge (tgt := 30) hx hb dX9_longestDelay_7 (by decide) (fun c9 => absurd c9 (by decide)) (fun _ => ?_)
  refine lv_iload_n hx hb dX9_longestDelay_10 rfl (lv_at hl 1 rfl) ?_
  refine lv_aload_n hx hb dX9_longestDelay_11 rfl (lv_at hl 2 rfl) ?_
  refine va_get (D := D) (ci := 9) (v := .ref a1) (C := RX9) (T := TX9) (N := 18) hx hb hts iX9_longestDelay_9 hown hN.1 hP 0 rfl rfl 8 (by decide) (hts _ mX9_longestDelay_1) (fun _ h9 => h9) rfl dX9_longestDelay_12 ?_
  refine lv_bipush (v := 119) hx hb dX9_longestDelay_15 (by decide) ?_
  refine lv_iload_n hx hb dX9_longestDelay_17 rfl (lv_at hl 0 rfl) ?_
  refine lv_iadd hx hb dX9_longestDelay_18 ?_
  refine tp_i (174) (by decide) ?_
  refine ld_i (v := 0) hx hb hN hP 1 rfl (vin (by decide +kernel)) (by first | rfl | decide +kernel) dX9_longestDelay_19 ?_
  refine cs_i (As := [.int 0, .int 0]) (rest := []) (wr := [(a0, .inr (9, [.int 0, .ref a2, .int 0, .int 0, .int 0, .int 0, .int 0, .int (-1), .ref a1, .ref a3, .ref a4, .ref a5, .int 1, .int 0, .int 0, .int 0, .int 0, .ref a6])), (a1, .inl (cs 0, 45783, .inl (layF (fun _ => 0) 1)))]) ⟨hx, hb, hml, hown, hts⟩ (fun sz => k145_X9_max l D cs sz ) (va_cwS 2 hts gX9_longestDelay_X9_max rfl rfl rfl hdX9_max_o ⟨Nat.le_of_ble_eq_true rfl, Nat.le_of_ble_eq_true rfl⟩) hN hP hD hS hA [] [0, 1] rfl rfl rfl rfl (by decide) rfl rfl hl.1 (Nat.le_of_ble_eq_true rfl) dX9_longestDelay_20 (Nat.le_of_ble_eq_true rfl) (Nat.le_of_ble_eq_true rfl) (fun u55 H locs hP hD hS => ?_)
  have hP : va_P D vwCl [(a0, .inr (9, [.int 0, .ref a2, .int 0, .int 0, .int 0, .int 0, .int 0, .int (-1), .ref a1, .ref a3, .ref a4, .ref a5, .int 1, .int 0, .int 0, .int 0, .int 0, .ref a6])), (a1, .inl (cs 0, 45783, .inl (layF (fun _ => 0) 1)))] H := hP
  have hD : va_D A [(a0, .inr (9, [.int 0, .ref a2, .int 0, .int 0, .int 0, .int 0, .int 0, .int (-1), .ref a1, .ref a3, .ref a4, .ref a5, .int 1, .int 0, .int 0, .int 0, .int 0, .ref a6])), (a1, .inl (cs 0, 45783, .inl (layF (fun _ => 0) 1)))] := hD
  refine W.widen (k := 0) (n := 0) (Nat.le_of_ble_eq_true rfl) (Nat.le_of_ble_eq_true rfl) ?_
  refine lv_istore_n (lv' := [(1, .int 0), (2, .int 55), (0, .ref a0)]) hx hb dX9_longestDelay_23 rfl hl (by decide) rfl (fun ls hl => ?_)
  refine lv_iinc (v := 56) (lv' := [(2, .int 56), (1, .int 0), (0, .ref a0)]) hx hb dX9_longestDelay_24 hl (k := 1) rfl (by decide) (by decide) rfl (fun ls hl => ?_)
  refine lv_goto (tgt := 4) hx hb dX9_longestDelay_27 (by decide) ?_
  refine lv_iload_n hx hb dX9_longestDelay_4 rfl (lv_at hl 0 rfl) ?_
  refine lv_bipush (v := 64) hx hb dX9_longestDelay_5 (by decide) ?_
  refine lv_icmp_ge (tgt := 30) hx hb dX9_longestDelay_7 (by decide) (fun c9 => absurd c9 (by decide)) (fun _ => ?_)
  refine lv_iload_n hx hb dX9_longestDelay_10 rfl (lv_at hl 1 rfl) ?_
  refine lv_aload_n hx hb dX9_longestDelay_11 rfl (lv_at hl 2 rfl) ?_
  refine va_get (D := D) (ci := 9) (v := .ref a1) (C := RX9) (T := TX9) (N := 18) hx hb hts iX9_longestDelay_9 hown hN.1 hP 0 rfl rfl 8 (by decide) (hts _ mX9_longestDelay_1) (fun _ h9 => h9) rfl dX9_longestDelay_12 ?_
  refine lv_bipush (v := 119) hx hb dX9_longestDelay_15 (by decide) ?_
  refine lv_iload_n hx hb dX9_longestDelay_17 rfl (lv_at hl 0 rfl) ?_
  refine lv_iadd hx hb dX9_longestDelay_18 ?_
  refine tp_i (175) (by decide) ?_
  refine ld_i (v := 0) hx hb hN hP 1 rfl (vin (by decide +kernel)) (by first | rfl | decide +kernel) dX9_longestDelay_19 ?_
  refine cs_i (As := [.int 0, .int 0]) (rest := []) (wr := [(a0, .inr (9, [.int 0, .ref a2, .int 0, .int 0, .int 0, .int 0, .int 0, .int (-1), .ref a1, .ref a3, .ref a4, .ref a5, .int 1, .int 0, .int 0, .int 0, .int 0, .ref a6])), (a1, .inl (cs 0, 45783, .inl (layF (fun _ => 0) 1)))]) ⟨hx, hb, hml, hown, hts⟩ (fun sz => k145_X9_max l D cs sz ) (va_cwS 2 hts gX9_longestDelay_X9_max rfl rfl rfl hdX9_max_o ⟨Nat.le_of_ble_eq_true rfl, Nat.le_of_ble_eq_true rfl⟩) hN hP hD hS hA [] [0, 1] rfl rfl rfl rfl (by decide) rfl rfl hl.1 (Nat.le_of_ble_eq_true rfl) dX9_longestDelay_20 (Nat.le_of_ble_eq_true rfl) (Nat.le_of_ble_eq_true rfl) (fun u56 H locs hP hD hS => ?_)
  have hP : va_P D vwCl [(a0, .inr (9, [.int 0, .ref a2, .int 0, .int 0, .int 0, .int 0, .int 0, .int (-1), .ref a1, .ref a3, .ref a4, .ref a5, .int 1, .int 0, .int 0, .int 0, .int 0, .ref a6])), (a1, .inl (cs 0, 45783, .inl (layF (fun _ => 0) 1)))] H := hP
  have hD : va_D A [(a0, .inr (9, [.int 0, .ref a2, .int 0, .int 0, .int 0, .int 0, .int 0, .int (-1), .ref a1, .ref a3, .ref a4, .ref a5, .int 1, .int 0, .int 0, .int 0, .int 0, .ref a6])), (a1, .inl (cs 0, 45783, .inl (layF (fun _ => 0) 1)))] := hD
  refine W.widen (k := 0) (n := 0) (Nat.le_of_ble_eq_true rfl) (Nat.le_of_ble_eq_true rfl) ?_
  refine lv_istore_n (lv' := [(1, .int 0), (2, .int 56), (0, .ref a0)]) hx hb dX9_longestDelay_23 rfl hl (by decide) rfl (fun ls hl => ?_)
  refine lv_iinc (v := 57) (lv' := [(2, .int 57), (1, .int 0), (0, .ref a0)]) hx hb dX9_longestDelay_24 hl (k := 1) rfl (by decide) (by decide) rfl (fun ls hl => ?_)
  refine lv_goto (tgt := 4) hx hb dX9_longestDelay_27 (by decide) ?_
  refine lv_iload_n hx hb dX9_longestDelay_4 rfl (lv_at hl 0 rfl) ?_
  refine lv_bipush (v := 64) hx hb dX9_longestDelay_5 (by decide) ?_
  refine lv_icmp_ge (tgt := 30) hx hb dX9_longestDelay_7 (by decide) (fun c9 => absurd c9 (by decide)) (fun _ => ?_)
  refine lv_iload_n hx hb dX9_longestDelay_10 rfl (lv_at hl 1 rfl) ?_
  refine lv_aload_n hx hb dX9_longestDelay_11 rfl (lv_at hl 2 rfl) ?_
  refine va_get (D := D) (ci := 9) (v := .ref a1) (C := RX9) (T := TX9) (N := 18) hx hb hts iX9_longestDelay_9 hown hN.1 hP 0 rfl rfl 8 (by decide) (hts _ mX9_longestDelay_1) (fun _ h9 => h9) rfl dX9_longestDelay_12 ?_
  refine lv_bipush (v := 119) hx hb dX9_longestDelay_15 (by decide) ?_
  refine lv_iload_n hx hb dX9_longestDelay_17 rfl (lv_at hl 0 rfl) ?_
  refine lv_iadd hx hb dX9_longestDelay_18 ?_
  refine tp_i (176) (by decide) ?_
  refine ld_i (v := 0) hx hb hN hP 1 rfl (vin (by decide +kernel)) (by first | rfl | decide +kernel) dX9_longestDelay_19 ?_
  refine cs_i (As := [.int 0, .int 0]) (rest := []) (wr := [(a0, .inr (9, [.int 0, .ref a2, .int 0, .int 0, .int 0, .int 0, .int 0, .int (-1), .ref a1, .ref a3, .ref a4, .ref a5, .int 1, .int 0, .int 0, .int 0, .int 0, .ref a6])), (a1, .inl (cs 0, 45783, .inl (layF (fun _ => 0) 1)))]) ⟨hx, hb, hml, hown, hts⟩ (fun sz => k145_X9_max l D cs sz ) (va_cwS 2 hts gX9_longestDelay_X9_max rfl rfl rfl hdX9_max_o ⟨Nat.le_of_ble_eq_true rfl, Nat.le_of_ble_eq_true rfl⟩) hN hP hD hS hA [] [0, 1] rfl rfl rfl rfl (by decide) rfl rfl hl.1 (Nat.le_of_ble_eq_true rfl) dX9_longestDelay_20 (Nat.le_of_ble_eq_true rfl) (Nat.le_of_ble_eq_true rfl) (fun u57 H locs hP hD hS => ?_)
  have hP : va_P D vwCl [(a0, .inr (9, [.int 0, .ref a2, .int 0, .int 0, .int 0, .int 0, .int 0, .int (-1), .ref a1, .ref a3, .ref a4, .ref a5, .int 1, .int 0, .int 0, .int 0, .int 0, .ref a6])), (a1, .inl (cs 0, 45783, .inl (layF (fun _ => 0) 1)))] H := hP
  have hD : va_D A [(a0, .inr (9, [.int 0, .ref a2, .int 0, .int 0, .int 0, .int 0, .int 0, .int (-1), .ref a1, .ref a3, .ref a4, .ref a5, .int 1, .int 0, .int 0, .int 0, .int 0, .ref a6])), (a1, .inl (cs 0, 45783, .inl (layF (fun _ => 0) 1)))] := hD
  refine W.widen (k := 0) (n := 0) (Nat.le_of_ble_eq_true rfl) (Nat.le_of_ble_eq_true rfl) ?_
  refine lv_istore_n (lv' := [(1, .int 0), (2, .int 57), (0, .ref a0)]) hx hb dX9_longestDelay_23 rfl hl (by decide) rfl (fun ls hl => ?_)
  refine lv_iinc (v := 58) (lv' := [(2, .int 58), (1, .int 0), (0, .ref a0)]) hx hb dX9_longestDelay_24 hl (k := 1) rfl (by decide) (by decide) rfl (fun ls hl => ?_)
  refine lv_goto (tgt := 4) hx hb dX9_longestDelay_27 (by decide) ?_
  refine lv_iload_n hx hb dX9_longestDelay_4 rfl (lv_at hl 0 rfl) ?_
  refine lv_bipush (v := 64) hx hb dX9_longestDelay_5 (by decide) ?_
  refine lv_icmp_ge (tgt := 30) hx hb dX9_longestDelay_7 (by decide) (fun c9 => absurd c9 (by decide)) (fun _ => ?_)
  refine lv_iload_n hx hb dX9_longestDelay_10 rfl (lv_at hl 1 rfl) ?_
  refine lv_aload_n hx hb dX9_longestDelay_11 rfl (lv_at hl 2 rfl) ?_
  refine va_get (D := D) (ci := 9) (v := .ref a1) (C := RX9) (T := TX9) (N := 18) hx hb hts iX9_longestDelay_9 hown hN.1 hP 0 rfl rfl 8 (by decide) (hts _ mX9_longestDelay_1) (fun _ h9 => h9) rfl dX9_longestDelay_12 ?_
  refine lv_bipush (v := 119) hx hb dX9_longestDelay_15 (by decide) ?_
  refine lv_iload_n hx hb dX9_longestDelay_17 rfl (lv_at hl 0 rfl) ?_
  refine lv_iadd hx hb dX9_longestDelay_18 ?_
  refine tp_i (177) (by decide) ?_
  refine ld_i (v := 0) hx hb hN hP 1 rfl (vin (by decide +kernel)) (by first | rfl | decide +kernel) dX9_longestDelay_19 ?_
  refine cs_i (As := [.int 0, .int 0]) (rest := []) (wr := [(a0, .inr (9, [.int 0, .ref a2, .int 0, .int 0, .int 0, .int 0, .int 0, .int (-1), .ref a1, .ref a3, .ref a4, .ref a5, .int 1, .int 0, .int 0, .int 0, .int 0, .ref a6])), (a1, .inl (cs 0, 45783, .inl (layF (fun _ => 0) 1)))]) ⟨hx, hb, hml, hown, hts⟩ (fun sz => k145_X9_max l D cs sz ) (va_cwS 2 hts gX9_longestDelay_X9_max rfl rfl rfl hdX9_max_o ⟨Nat.le_of_ble_eq_true rfl, Nat.le_of_ble_eq_true rfl⟩) hN hP hD hS hA [] [0, 1] rfl rfl rfl rfl (by decide) rfl rfl hl.1 (Nat.le_of_ble_eq_true rfl) dX9_longestDelay_20 (Nat.le_of_ble_eq_true rfl) (Nat.le_of_ble_eq_true rfl) (fun u58 H locs hP hD hS => ?_)
  have hP : va_P D vwCl [(a0, .inr (9, [.int 0, .ref a2, .int 0, .int 0, .int 0, .int 0, .int 0, .int (-1), .ref a1, .ref a3, .ref a4, .ref a5, .int 1, .int 0, .int 0, .int 0, .int 0, .ref a6])), (a1, .inl (cs 0, 45783, .inl (layF (fun _ => 0) 1)))] H := hP
  have hD : va_D A [(a0, .inr (9, [.int 0, .ref a2, .int 0, .int 0, .int 0, .int 0, .int 0, .int (-1), .ref a1, .ref a3, .ref a4, .ref a5, .int 1, .int 0, .int 0, .int 0, .int 0, .ref a6])), (a1, .inl (cs 0, 45783, .inl (layF (fun _ => 0) 1)))] := hD
  refine W.widen (k := 0) (n := 0) (Nat.le_of_ble_eq_true rfl) (Nat.le_of_ble_eq_true rfl) ?_
  refine lv_istore_n (lv' := [(1, .int 0), (2, .int 58), (0, .ref a0)]) hx hb dX9_longestDelay_23 rfl hl (by decide) rfl (fun ls hl => ?_)
  refine lv_iinc (v := 59) (lv' := [(2, .int 59), (1, .int 0), (0, .ref a0)]) hx hb dX9_longestDelay_24 hl (k := 1) rfl (by decide) (by decide) rfl (fun ls hl => ?_)
  refine lv_goto (tgt := 4) hx hb dX9_longestDelay_27 (by decide) ?_
  refine lv_iload_n hx hb dX9_longestDelay_4 rfl (lv_at hl 0 rfl) ?_
  refine lv_bipush (v := 64) hx hb dX9_longestDelay_5 (by decide) ?_
  refine lv_icmp_ge (tgt := 30) hx hb dX9_longestDelay_7 (by decide) (fun c9 => absurd c9 (by decide)) (fun _ => ?_)
  refine lv_iload_n hx hb dX9_longestDelay_10 rfl (lv_at hl 1 rfl) ?_
  refine lv_aload_n hx hb dX9_longestDelay_11 rfl (lv_at hl 2 rfl) ?_
  refine va_get (D := D) (ci := 9) (v := .ref a1) (C := RX9) (T := TX9) (N := 18) hx hb hts iX9_longestDelay_9 hown hN.1 hP 0 rfl rfl 8 (by decide) (hts _ mX9_longestDelay_1) (fun _ h9 => h9) rfl dX9_longestDelay_12 ?_
  refine lv_bipush (v := 119) hx hb dX9_longestDelay_15 (by decide) ?_
  refine lv_iload_n hx hb dX9_longestDelay_17 rfl (lv_at hl 0 rfl) ?_
  refine lv_iadd hx hb dX9_longestDelay_18 ?_
  refine tp_i (178) (by decide) ?_
  refine ld_i (v := 0) hx hb hN hP 1 rfl (vin (by decide +kernel)) (by first | rfl | decide +kernel) dX9_longestDelay_19 ?_
  refine cs_i (As := [.int 0, .int 0]) (rest := []) (wr := [(a0, .inr (9, [.int 0, .ref a2, .int 0, .int 0, .int 0, .int 0, .int 0, .int (-1), .ref a1, .ref a3, .ref a4, .ref a5, .int 1, .int 0, .int 0, .int 0, .int 0, .ref a6])), (a1, .inl (cs 0, 45783, .inl (layF (fun _ => 0) 1)))]) ⟨hx, hb, hml, hown, hts⟩ (fun sz => k145_X9_max l D cs sz ) (va_cwS 2 hts gX9_longestDelay_X9_max rfl rfl rfl hdX9_max_o ⟨Nat.le_of_ble_eq_true rfl, Nat.le_of_ble_eq_true rfl⟩) hN hP hD hS hA [] [0, 1] rfl rfl rfl rfl (by decide) rfl rfl hl.1 (Nat.le_of_ble_eq_true rfl) dX9_longestDelay_20 (Nat.le_of_ble_eq_true rfl) (Nat.le_of_ble_eq_true rfl) (fun u59 H locs hP hD hS => ?_)
  have hP : va_P D vwCl [(a0, .inr (9, [.int 0, .ref a2, .int 0, .int 0, .int 0, .int 0, .int 0, .int (-1), .ref a1, .ref a3, .ref a4, .ref a5, .int 1, .int 0, .int 0, .int 0, .int 0, .ref a6])), (a1, .inl (cs 0, 45783, .inl (layF (fun _ => 0) 1)))] H := hP
  have hD : va_D A [(a0, .inr (9, [.int 0, .ref a2, .int 0, .int 0, .int 0, .int 0, .int 0, .int (-1), .ref a1, .ref a3, .ref a4, .ref a5, .int 1, .int 0, .int 0, .int 0, .int 0, .ref a6])), (a1, .inl (cs 0, 45783, .inl (layF (fun _ => 0) 1)))] := hD
  refine W.widen (k := 0) (n := 0) (Nat.le_of_ble_eq_true rfl) (Nat.le_of_ble_eq_true rfl) ?_
  refine lv_istore_n (lv' := [(1, .int 0), (2, .int 59), (0, .ref a0)]) hx hb dX9_longestDelay_23 rfl hl (by decide) rfl (fun ls hl => ?_)
  refine lv_iinc (v := 60) (lv' := [(2, .int 60), (1, .int 0), (0, .ref a0)]) hx hb dX9_longestDelay_24 hl (k := 1) rfl (by decide) (by decide) rfl (fun ls hl => ?_)
  refine lv_goto (tgt := 4) hx hb dX9_longestDelay_27 (by decide) ?_
  refine lv_iload_n hx hb dX9_longestDelay_4 rfl (lv_at hl 0 rfl) ?_
  refine lv_bipush (v := 64) hx hb dX9_longestDelay_5 (by decide) ?_
  refine lv_icmp_ge (tgt := 30) hx hb dX9_longestDelay_7 (by decide) (fun c9 => absurd c9 (by decide)) (fun _ => ?_)
  refine lv_iload_n hx hb dX9_longestDelay_10 rfl (lv_at hl 1 rfl) ?_
  refine lv_aload_n hx hb dX9_longestDelay_11 rfl (lv_at hl 2 rfl) ?_
  refine va_get (D := D) (ci := 9) (v := .ref a1) (C := RX9) (T := TX9) (N := 18) hx hb hts iX9_longestDelay_9 hown hN.1 hP 0 rfl rfl 8 (by decide) (hts _ mX9_longestDelay_1) (fun _ h9 => h9) rfl dX9_longestDelay_12 ?_
  refine lv_bipush (v := 119) hx hb dX9_longestDelay_15 (by decide) ?_
  refine lv_iload_n hx hb dX9_longestDelay_17 rfl (lv_at hl 0 rfl) ?_
  refine lv_iadd hx hb dX9_longestDelay_18 ?_
  refine tp_i (179) (by decide) ?_
  refine ld_i (v := 0) hx hb hN hP 1 rfl (vin (by decide +kernel)) (by first | rfl | decide +kernel) dX9_longestDelay_19 ?_
  refine cs_i (As := [.int 0, .int 0]) (rest := []) (wr := [(a0, .inr (9, [.int 0, .ref a2, .int 0, .int 0, .int 0, .int 0, .int 0, .int (-1), .ref a1, .ref a3, .ref a4, .ref a5, .int 1, .int 0, .int 0, .int 0, .int 0, .ref a6])), (a1, .inl (cs 0, 45783, .inl (layF (fun _ => 0) 1)))]) ⟨hx, hb, hml, hown, hts⟩ (fun sz => k145_X9_max l D cs sz ) (va_cwS 2 hts gX9_longestDelay_X9_max rfl rfl rfl hdX9_max_o ⟨Nat.le_of_ble_eq_true rfl, Nat.le_of_ble_eq_true rfl⟩) hN hP hD hS hA [] [0, 1] rfl rfl rfl rfl (by decide) rfl rfl hl.1 (Nat.le_of_ble_eq_true rfl) dX9_longestDelay_20 (Nat.le_of_ble_eq_true rfl) (Nat.le_of_ble_eq_true rfl) (fun u60 H locs hP hD hS => ?_)
  have hP : va_P D vwCl [(a0, .inr (9, [.int 0, .ref a2, .int 0, .int 0, .int 0, .int 0, .int 0, .int (-1), .ref a1, .ref a3, .ref a4, .ref a5, .int 1, .int 0, .int 0, .int 0, .int 0, .ref a6])), (a1, .inl (cs 0, 45783, .inl (layF (fun _ => 0) 1)))] H := hP
  have hD : va_D A [(a0, .inr (9, [.int 0, .ref a2, .int 0, .int 0, .int 0, .int 0, .int 0, .int (-1), .ref a1, .ref a3, .ref a4, .ref a5, .int 1, .int 0, .int 0, .int 0, .int 0, .ref a6])), (a1, .inl (cs 0, 45783, .inl (layF (fun _ => 0) 1)))] := hD
  refine W.widen (k := 0) (n := 0) (Nat.le_of_ble_eq_true rfl) (Nat.le_of_ble_eq_true rfl) ?_
  refine lv_istore_n (lv' := [(1, .int 0), (2, .int 60), (0, .ref a0)]) hx hb dX9_longestDelay_23 rfl hl (by decide) rfl (fun ls hl => ?_)
  refine lv_iinc (v := 61) (lv' := [(2, .int 61), (1, .int 0), (0, .ref a0)]) hx hb dX9_longestDelay_24 hl (k := 1) rfl (by decide) (by decide) rfl (fun ls hl => ?_)
  refine lv_goto (tgt := 4) hx hb dX9_longestDelay_27 (by decide) ?_
  refine lv_iload_n hx hb dX9_longestDelay_4 rfl (lv_at hl 0 rfl) ?_
  refine lv_bipush (v := 64) hx hb dX9_longestDelay_5 (by decide) ?_
  refine lv_icmp_ge (tgt := 30) hx hb dX9_longestDelay_7 (by decide) (fun c9 => absurd c9 (by decide)) (fun _ => ?_)
  refine lv_iload_n hx hb dX9_longestDelay_10 rfl (lv_at hl 1 rfl) ?_
  refine lv_aload_n hx hb dX9_longestDelay_11 rfl (lv_at hl 2 rfl) ?_
  refine va_get (D := D) (ci := 9) (v := .ref a1) (C := RX9) (T := TX9) (N := 18) hx hb hts iX9_longestDelay_9 hown hN.1 hP 0 rfl rfl 8 (by decide) (hts _ mX9_longestDelay_1) (fun _ h9 => h9) rfl dX9_longestDelay_12 ?_
  refine lv_bipush (v := 119) hx hb dX9_longestDelay_15 (by decide) ?_
  refine lv_iload_n hx hb dX9_longestDelay_17 rfl (lv_at hl 0 rfl) ?_
  refine lv_iadd hx hb dX9_longestDelay_18 ?_
  refine tp_i (180) (by decide) ?_
  refine ld_i (v := 0) hx hb hN hP 1 rfl (vin (by decide +kernel)) (by first | rfl | decide +kernel) dX9_longestDelay_19 ?_
  refine cs_i (As := [.int 0, .int 0]) (rest := []) (wr := [(a0, .inr (9, [.int 0, .ref a2, .int 0, .int 0, .int 0, .int 0, .int 0, .int (-1), .ref a1, .ref a3, .ref a4, .ref a5, .int 1, .int 0, .int 0, .int 0, .int 0, .ref a6])), (a1, .inl (cs 0, 45783, .inl (layF (fun _ => 0) 1)))]) ⟨hx, hb, hml, hown, hts⟩ (fun sz => k145_X9_max l D cs sz ) (va_cwS 2 hts gX9_longestDelay_X9_max rfl rfl rfl hdX9_max_o ⟨Nat.le_of_ble_eq_true rfl, Nat.le_of_ble_eq_true rfl⟩) hN hP hD hS hA [] [0, 1] rfl rfl rfl rfl (by decide) rfl rfl hl.1 (Nat.le_of_ble_eq_true rfl) dX9_longestDelay_20 (Nat.le_of_ble_eq_true rfl) (Nat.le_of_ble_eq_true rfl) (fun u61 H locs hP hD hS => ?_)
  have hP : va_P D vwCl [(a0, .inr (9, [.int 0, .ref a2, .int 0, .int 0, .int 0, .int 0, .int 0, .int (-1), .ref a1, .ref a3, .ref a4, .ref a5, .int 1, .int 0, .int 0, .int 0, .int 0, .ref a6])), (a1, .inl (cs 0, 45783, .inl (layF (fun _ => 0) 1)))] H := hP
  have hD : va_D A [(a0, .inr (9, [.int 0, .ref a2, .int 0, .int 0, .int 0, .int 0, .int 0, .int (-1), .ref a1, .ref a3, .ref a4, .ref a5, .int 1, .int 0, .int 0, .int 0, .int 0, .ref a6])), (a1, .inl (cs 0, 45783, .inl (layF (fun _ => 0) 1)))] := hD
  refine W.widen (k := 0) (n := 0) (Nat.le_of_ble_eq_true rfl) (Nat.le_of_ble_eq_true rfl) ?_
  refine lv_istore_n (lv' := [(1, .int 0), (2, .int 61), (0, .ref a0)]) hx hb dX9_longestDelay_23 rfl hl (by decide) rfl (fun ls hl => ?_)
  refine lv_iinc (v := 62) (lv' := [(2, .int 62), (1, .int 0), (0, .ref a0)]) hx hb dX9_longestDelay_24 hl (k := 1) rfl (by decide) (by decide) rfl (fun ls hl => ?_)
  refine lv_goto (tgt := 4) hx hb dX9_longestDelay_27 (by decide) ?_
  refine lv_iload_n hx hb dX9_longestDelay_4 rfl (lv_at hl 0 rfl) ?_
  refine lv_bipush (v := 64) hx hb dX9_longestDelay_5 (by decide) ?_
  refine lv_icmp_ge (tgt := 30) hx hb dX9_longestDelay_7 (by decide) (fun c9 => absurd c9 (by decide)) (fun _ => ?_)
  refine lv_iload_n hx hb dX9_longestDelay_10 rfl (lv_at hl 1 rfl) ?_
  refine lv_aload_n hx hb dX9_longestDelay_11 rfl (lv_at hl 2 rfl) ?_
  refine va_get (D := D) (ci := 9) (v := .ref a1) (C := RX9) (T := TX9) (N := 18) hx hb hts iX9_longestDelay_9 hown hN.1 hP 0 rfl rfl 8 (by decide) (hts _ mX9_longestDelay_1) (fun _ h9 => h9) rfl dX9_longestDelay_12 ?_
  refine lv_bipush (v := 119) hx hb dX9_longestDelay_15 (by decide) ?_
  refine lv_iload_n hx hb dX9_longestDelay_17 rfl (lv_at hl 0 rfl) ?_
  refine lv_iadd hx hb dX9_longestDelay_18 ?_
  refine tp_i (181) (by decide) ?_
  refine ld_i (v := 0) hx hb hN hP 1 rfl (vin (by decide +kernel)) (by first | rfl | decide +kernel) dX9_longestDelay_19 ?_
  refine cs_i (As := [.int 0, .int 0]) (rest := []) (wr := [(a0, .inr (9, [.int 0, .ref a2, .int 0, .int 0, .int 0, .int 0, .int 0, .int (-1), .ref a1, .ref a3, .ref a4, .ref a5, .int 1, .int 0, .int 0, .int 0, .int 0, .ref a6])), (a1, .inl (cs 0, 45783, .inl (layF (fun _ => 0) 1)))]) ⟨hx, hb, hml, hown, hts⟩ (fun sz => k145_X9_max l D cs sz ) (va_cwS 2 hts gX9_longestDelay_X9_max rfl rfl rfl hdX9_max_o ⟨Nat.le_of_ble_eq_true rfl, Nat.le_of_ble_eq_true rfl⟩) hN hP hD hS hA [] [0, 1] rfl rfl rfl rfl (by decide) rfl rfl hl.1 (Nat.le_of_ble_eq_true rfl) dX9_longestDelay_20 (Nat.le_of_ble_eq_true rfl) (Nat.le_of_ble_eq_true rfl) (fun u62 H locs hP hD hS => ?_)
  have hP : va_P D vwCl [(a0, .inr (9, [.int 0, .ref a2, .int 0, .int 0, .int 0, .int 0, .int 0, .int (-1), .ref a1, .ref a3, .ref a4, .ref a5, .int 1, .int 0, .int 0, .int 0, .int 0, .ref a6])), (a1, .inl (cs 0, 45783, .inl (layF (fun _ => 0) 1)))] H := hP
  have hD : va_D A [(a0, .inr (9, [.int 0, .ref a2, .int 0, .int 0, .int 0, .int 0, .int 0, .int (-1), .ref a1, .ref a3, .ref a4, .ref a5, .int 1, .int 0, .int 0, .int 0, .int 0, .ref a6])), (a1, .inl (cs 0, 45783, .inl (layF (fun _ => 0) 1)))] := hD
  refine W.widen (k := 0) (n := 0) (Nat.le_of_ble_eq_true rfl) (Nat.le_of_ble_eq_true rfl) ?_
  refine lv_istore_n (lv' := [(1, .int 0), (2, .int 62), (0, .ref a0)]) hx hb dX9_longestDelay_23 rfl hl (by decide) rfl (fun ls hl => ?_)
  refine lv_iinc (v := 63) (lv' := [(2, .int 63), (1, .int 0), (0, .ref a0)]) hx hb dX9_longestDelay_24 hl (k := 1) rfl (by decide) (by decide) rfl (fun ls hl => ?_)
  refine lv_goto (tgt := 4) hx hb dX9_longestDelay_27 (by decide) ?_
  refine lv_iload_n hx hb dX9_longestDelay_4 rfl (lv_at hl 0 rfl) ?_
  refine lv_bipush (v := 64) hx hb dX9_longestDelay_5 (by decide) ?_
  refine lv_icmp_ge (tgt := 30) hx hb dX9_longestDelay_7 (by decide) (fun c9 => absurd c9 (by decide)) (fun _ => ?_)
  refine lv_iload_n hx hb dX9_longestDelay_10 rfl (lv_at hl 1 rfl) ?_
  refine lv_aload_n hx hb dX9_longestDelay_11 rfl (lv_at hl 2 rfl) ?_
  refine va_get (D := D) (ci := 9) (v := .ref a1) (C := RX9) (T := TX9) (N := 18) hx hb hts iX9_longestDelay_9 hown hN.1 hP 0 rfl rfl 8 (by decide) (hts _ mX9_longestDelay_1) (fun _ h9 => h9) rfl dX9_longestDelay_12 ?_
  refine lv_bipush (v := 119) hx hb dX9_longestDelay_15 (by decide) ?_
  refine lv_iload_n hx hb dX9_longestDelay_17 rfl (lv_at hl 0 rfl) ?_
  refine lv_iadd hx hb dX9_longestDelay_18 ?_
  refine tp_i (182) (by decide) ?_
  refine ld_i (v := 0) hx hb hN hP 1 rfl (vin (by decide +kernel)) (by first | rfl | decide +kernel) dX9_longestDelay_19 ?_
  refine cs_i (As := [.int 0, .int 0]) (rest := []) (wr := [(a0, .inr (9, [.int 0, .ref a2, .int 0, .int 0, .int 0, .int 0, .int 0, .int (-1), .ref a1, .ref a3, .ref a4, .ref a5, .int 1, .int 0, .int 0, .int 0, .int 0, .ref a6])), (a1, .inl (cs 0, 45783, .inl (layF (fun _ => 0) 1)))]) ⟨hx, hb, hml, hown, hts⟩ (fun sz => k145_X9_max l D cs sz ) (va_cwS 2 hts gX9_longestDelay_X9_max rfl rfl rfl hdX9_max_o ⟨Nat.le_of_ble_eq_true rfl, Nat.le_of_ble_eq_true rfl⟩) hN hP hD hS hA [] [0, 1] rfl rfl rfl rfl (by decide) rfl rfl hl.1 (Nat.le_of_ble_eq_true rfl) dX9_longestDelay_20 (Nat.le_of_ble_eq_true rfl) (Nat.le_of_ble_eq_true rfl) (fun u63 H locs hP hD hS => ?_)
  have hP : va_P D vwCl [(a0, .inr (9, [.int 0, .ref a2, .int 0, .int 0, .int 0, .int 0, .int 0, .int (-1), .ref a1, .ref a3, .ref a4, .ref a5, .int 1, .int 0, .int 0, .int 0, .int 0, .ref a6])), (a1, .inl (cs 0, 45783, .inl (layF (fun _ => 0) 1)))] H := hP
  have hD : va_D A [(a0, .inr (9, [.int 0, .ref a2, .int 0, .int 0, .int 0, .int 0, .int 0, .int (-1), .ref a1, .ref a3, .ref a4, .ref a5, .int 1, .int 0, .int 0, .int 0, .int 0, .ref a6])), (a1, .inl (cs 0, 45783, .inl (layF (fun _ => 0) 1)))] := hD
  refine W.widen (k := 0) (n := 0) (Nat.le_of_ble_eq_true rfl) (Nat.le_of_ble_eq_true rfl) ?_
  refine lv_istore_n (lv' := [(1, .int 0), (2, .int 63), (0, .ref a0)]) hx hb dX9_longestDelay_23 rfl hl (by decide) rfl (fun ls hl => ?_)
  refine lv_iinc (v := 64) (lv' := [(2, .int 64), (1, .int 0), (0, .ref a0)]) hx hb dX9_longestDelay_24 hl (k := 1) rfl (by decide) (by decide) rfl (fun ls hl => ?_)
  refine lv_goto (tgt := 4) hx hb dX9_longestDelay_27 (by decide) ?_
  refine lv_iload_n hx hb dX9_longestDelay_4 rfl (lv_at hl 0 rfl) ?_
  refine lv_bipush (v := 64) hx hb dX9_longestDelay_5 (by decide) ?_
  refine lv_icmp_ge (tgt := 30) hx hb dX9_longestDelay_7 (by decide) (fun _ => ?_) (fun c9 => absurd (by decide) c9)
  refine lv_iload_n hx hb dX9_longestDelay_30 rfl (lv_at hl 1 rfl) ?_
  exact en_i (fun k => ([] : List Nat).getD k 0) hx hb hr hlocks rfl rfl hP hD hS (Nat.le_of_ble_eq_true rfl) (Nat.le_of_ble_eq_true rfl) dX9_longestDelay_31
set_option maxHeartbeats 4000000 in
set_option maxRecDepth 100000 in
theorem k461_X9_margin (l : Launch) (D : va_G) (cs : Nat → ClassId) (sz : Nat) (a0 a1 a2 a3 a4 a5 a6 : Nat) (x0 : Int32) : KI l yX9_margin wsX9_margin 2 43 0 0 D cs sz [.ref a0, .int x0] [(a0, .inr (9, [.int 0, .ref a2, .int 0, .int 0, .int 0, .int 0, .int 0, .int (-1), .ref a1, .ref a3, .ref a4, .ref a5, .int 1, .int 0, .int 0, .int 0, .int 0, .ref a6])), (a1, .inl (cs 0, 45783, .inl (layF (fun _ => 0) 1)))] (fun u => [(a0, .inr (9, [.int 0, .ref a2, .int 0, .int 0, .int 0, .int 0, .int 0, .int (-1), .ref a1, .ref a3, .ref a4, .ref a5, .int 1, .int 0, .int 0, .int 0, .int 0, .ref a6])), (a1, .inl (cs 0, 45783, .inl (layF (fun _ => 0) 1)))]) (1) := by
  refine KI.of cX9_margin 2 (some .int) (by decide) rfl (Nat.le_of_ble_eq_true rfl) ?_
  intro p e s m below meth c A ls hx hb hr hml hown hts hlocks hin hP hN hD hA hS hl
  have hown : s.vm.findClass RX9 = some m.cls := hown
  have hl : lv_has ls 2 [(0, .ref a0), (1, .int x0)] := hl
  refine lv_iconst (v := 1) hx hb dX9_margin_0 (by decide) ?_
  refine lv_sipush (v := 1000) hx hb dX9_margin_1 (by decide) ?_
  refine lv_aload_n hx hb dX9_margin_4 rfl (lv_at hl 0 rfl) ?_
  refine va_get (D := D) (ci := 9) (v := .ref a1) (C := RX9) (T := TX9) (N := 18) hx hb hts iX9_margin_9 hown hN.1 hP 0 rfl rfl 8 (by decide) (hts _ mX9_margin_1) (fun _ h9 => h9) rfl dX9_margin_5 ?_
  refine lv_bipush (v := 13) hx hb dX9_margin_8 (by decide) ?_
  refine ld_i (v := 0) hx hb hN hP 1 rfl (vin (by decide +kernel)) (by first | rfl | decide +kernel) dX9_margin_10 ?_
  refine lv_iconst (v := 1) hx hb dX9_margin_11 (by decide) ?_
  refine lv_icmp_ne (tgt := 23) hx hb dX9_margin_12 (by decide) (fun _ => ?_) (fun c9 => absurd c9 (by decide))
  refine lv_iconst (v := 2) hx hb dX9_margin_23 (by decide) ?_
  refine lv_aload_n hx hb dX9_margin_24 rfl (lv_at hl 0 rfl) ?_
  refine cv_i (As := []) (rest := [.int 2, .int 1000, .int 1]) (b := a0) (wr := []) ⟨hx, hb, hml, hown, hts⟩ (fun sz => k460_X9_longestDelay l D cs sz a0 a1 a2 a3 a4 a5 a6) (cwV 0 hts gX9_margin_X9_longestDelay rfl rfl rfl hdX9_longestDelay_v ⟨Nat.le_of_ble_eq_true rfl, Nat.le_of_ble_eq_true rfl⟩) hN hP hD hS hA [0, 1] [] rfl rfl rfl rfl (by decide) (ci := 9) (q0 := 0) rfl rfl rfl rfl hl.1 (Nat.le_of_ble_eq_true rfl) dX9_margin_25 (Nat.le_of_ble_eq_true rfl) (Nat.le_of_ble_eq_true rfl) (fun u0 H locs hP hD hS => ?_)
  have hP : va_P D vwCl [(a0, .inr (9, [.int 0, .ref a2, .int 0, .int 0, .int 0, .int 0, .int 0, .int (-1), .ref a1, .ref a3, .ref a4, .ref a5, .int 1, .int 0, .int 0, .int 0, .int 0, .ref a6])), (a1, .inl (cs 0, 45783, .inl (layF (fun _ => 0) 1)))] H := hP
  have hD : va_D A [(a0, .inr (9, [.int 0, .ref a2, .int 0, .int 0, .int 0, .int 0, .int 0, .int (-1), .ref a1, .ref a3, .ref a4, .ref a5, .int 1, .int 0, .int 0, .int 0, .int 0, .ref a6])), (a1, .inl (cs 0, 45783, .inl (layF (fun _ => 0) 1)))] := hD
  refine W.widen (k := 0) (n := 0) (Nat.le_of_ble_eq_true rfl) (Nat.le_of_ble_eq_true rfl) ?_
  refine lv_imul hx hb dX9_margin_28 ?_
  refine tp_i (0) (by decide) ?_
  refine lv_iconst (v := 1) hx hb dX9_margin_29 (by decide) ?_
  refine lv_iadd hx hb dX9_margin_30 ?_
  refine tp_i (1) (by decide) ?_
  refine cs_i (As := [.int 1000, .int 1]) (rest := [.int 1]) (wr := [(a0, .inr (9, [.int 0, .ref a2, .int 0, .int 0, .int 0, .int 0, .int 0, .int (-1), .ref a1, .ref a3, .ref a4, .ref a5, .int 1, .int 0, .int 0, .int 0, .int 0, .ref a6])), (a1, .inl (cs 0, 45783, .inl (layF (fun _ => 0) 1)))]) ⟨hx, hb, hml, hown, hts⟩ (fun sz => k147_X9_min l D cs sz ) (va_cwS 2 hts gX9_margin_X9_min rfl rfl rfl hdX9_min_o ⟨Nat.le_of_ble_eq_true rfl, Nat.le_of_ble_eq_true rfl⟩) hN hP hD hS hA [] [0, 1] rfl rfl rfl rfl (by decide) rfl rfl hl.1 (Nat.le_of_ble_eq_true rfl) dX9_margin_31 (Nat.le_of_ble_eq_true rfl) (Nat.le_of_ble_eq_true rfl) (fun u1 H locs hP hD hS => ?_)
  have hP : va_P D vwCl [(a0, .inr (9, [.int 0, .ref a2, .int 0, .int 0, .int 0, .int 0, .int 0, .int (-1), .ref a1, .ref a3, .ref a4, .ref a5, .int 1, .int 0, .int 0, .int 0, .int 0, .ref a6])), (a1, .inl (cs 0, 45783, .inl (layF (fun _ => 0) 1)))] H := hP
  have hD : va_D A [(a0, .inr (9, [.int 0, .ref a2, .int 0, .int 0, .int 0, .int 0, .int 0, .int (-1), .ref a1, .ref a3, .ref a4, .ref a5, .int 1, .int 0, .int 0, .int 0, .int 0, .ref a6])), (a1, .inl (cs 0, 45783, .inl (layF (fun _ => 0) 1)))] := hD
  refine W.widen (k := 0) (n := 0) (Nat.le_of_ble_eq_true rfl) (Nat.le_of_ble_eq_true rfl) ?_
  refine cs_i (As := [.int 1, .int 1]) (rest := []) (wr := [(a0, .inr (9, [.int 0, .ref a2, .int 0, .int 0, .int 0, .int 0, .int 0, .int (-1), .ref a1, .ref a3, .ref a4, .ref a5, .int 1, .int 0, .int 0, .int 0, .int 0, .ref a6])), (a1, .inl (cs 0, 45783, .inl (layF (fun _ => 0) 1)))]) ⟨hx, hb, hml, hown, hts⟩ (fun sz => k148_X9_max l D cs sz ) (va_cwS 2 hts gX9_margin_X9_max rfl rfl rfl hdX9_max_o ⟨Nat.le_of_ble_eq_true rfl, Nat.le_of_ble_eq_true rfl⟩) hN hP hD hS hA [] [0, 1] rfl rfl rfl rfl (by decide) rfl rfl hl.1 (Nat.le_of_ble_eq_true rfl) dX9_margin_34 (Nat.le_of_ble_eq_true rfl) (Nat.le_of_ble_eq_true rfl) (fun u2 H locs hP hD hS => ?_)
  have hP : va_P D vwCl [(a0, .inr (9, [.int 0, .ref a2, .int 0, .int 0, .int 0, .int 0, .int 0, .int (-1), .ref a1, .ref a3, .ref a4, .ref a5, .int 1, .int 0, .int 0, .int 0, .int 0, .ref a6])), (a1, .inl (cs 0, 45783, .inl (layF (fun _ => 0) 1)))] H := hP
  have hD : va_D A [(a0, .inr (9, [.int 0, .ref a2, .int 0, .int 0, .int 0, .int 0, .int 0, .int (-1), .ref a1, .ref a3, .ref a4, .ref a5, .int 1, .int 0, .int 0, .int 0, .int 0, .ref a6])), (a1, .inl (cs 0, 45783, .inl (layF (fun _ => 0) 1)))] := hD
  refine W.widen (k := 0) (n := 0) (Nat.le_of_ble_eq_true rfl) (Nat.le_of_ble_eq_true rfl) ?_
  exact en_i (fun k => ([] : List Nat).getD k 0) hx hb hr hlocks rfl rfl hP hD hS (Nat.le_of_ble_eq_true rfl) (Nat.le_of_ble_eq_true rfl) dX9_margin_37
set_option maxHeartbeats 4000000 in
set_option maxRecDepth 100000 in
theorem k462_X9_of (l : Launch) (D : va_G) (cs : Nat → ClassId) (sz : Nat) (a0 a1 a2 a3 a4 a5 a6 : Nat) (x0 : Int32) : KI l yX9_of wsX9_of 1 20 0 0 D cs sz [.ref a0, .int 0, .int 1] [(a0, .inr (9, [.int 0, .ref a2, .int 0, .int 0, .int 0, .int 0, .int 0, .int (-1), .ref a1, .ref a3, .ref a4, .ref a5, .int 1, .int 0, .int 0, .int 0, .int 0, .ref a6])), (a1, .inl (cs 0, 45783, .inl (upd (upd (layF (fun _ => 0) 1) 6 1) 15 x0)))] (fun u => [(a0, .inr (9, [.int 0, .ref a2, .int 0, .int 0, .int 0, .int 0, .int 0, .int (-1), .ref a1, .ref a3, .ref a4, .ref a5, .int 1, .int 0, .int 0, .int 0, .int 0, .ref a6])), (a1, .inl (cs 0, 45783, .inl (upd (upd (layF (fun _ => 0) 1) 6 1) 15 x0)))]) (0) := by
  refine KI.of cX9_of 3 (some .int) (by decide) rfl (Nat.le_of_ble_eq_true rfl) ?_
  intro p e s m below meth c A ls hx hb hr hml hown hts hlocks hin hP hN hD hA hS hl
  have hown : s.vm.findClass RX9 = some m.cls := hown
  have hl : lv_has ls 3 [(0, .ref a0), (1, .int 0), (2, .int 1)] := hl
  refine lv_aload_n hx hb dX9_of_0 rfl (lv_at hl 0 rfl) ?_
  refine va_get (D := D) (ci := 9) (v := .ref a1) (C := RX9) (T := TX9) (N := 18) hx hb hts iX9_of_9 hown hN.1 hP 0 rfl rfl 8 (by decide) (hts _ mX9_of_1) (fun _ h9 => h9) rfl dX9_of_1 ?_
  refine lv_iload_n hx hb dX9_of_4 rfl (lv_at hl 1 rfl) ?_
  refine cs_i (As := [.int 0]) (rest := [.ref a1]) (wr := [(a0, .inr (9, [.int 0, .ref a2, .int 0, .int 0, .int 0, .int 0, .int 0, .int (-1), .ref a1, .ref a3, .ref a4, .ref a5, .int 1, .int 0, .int 0, .int 0, .int 0, .ref a6])), (a1, .inl (cs 0, 45783, .inl (upd (upd (layF (fun _ => 0) 1) 6 1) 15 x0)))]) ⟨hx, hb, hml, hown, hts⟩ (fun sz => k16_X9_playerAt l D cs sz ) (va_cwS 1 hts gX9_of_X9_playerAt rfl rfl rfl hdX9_playerAt_o ⟨Nat.le_of_ble_eq_true rfl, Nat.le_of_ble_eq_true rfl⟩) hN hP hD hS hA [] [0, 1] rfl rfl rfl rfl (by decide) rfl rfl hl.1 (Nat.le_of_ble_eq_true rfl) dX9_of_5 (Nat.le_of_ble_eq_true rfl) (Nat.le_of_ble_eq_true rfl) (fun u0 H locs hP hD hS => ?_)
  have hP : va_P D vwCl [(a0, .inr (9, [.int 0, .ref a2, .int 0, .int 0, .int 0, .int 0, .int 0, .int (-1), .ref a1, .ref a3, .ref a4, .ref a5, .int 1, .int 0, .int 0, .int 0, .int 0, .ref a6])), (a1, .inl (cs 0, 45783, .inl (upd (upd (layF (fun _ => 0) 1) 6 1) 15 x0)))] H := hP
  have hD : va_D A [(a0, .inr (9, [.int 0, .ref a2, .int 0, .int 0, .int 0, .int 0, .int 0, .int (-1), .ref a1, .ref a3, .ref a4, .ref a5, .int 1, .int 0, .int 0, .int 0, .int 0, .ref a6])), (a1, .inl (cs 0, 45783, .inl (upd (upd (layF (fun _ => 0) 1) 6 1) 15 x0)))] := hD
  refine W.widen (k := 0) (n := 0) (Nat.le_of_ble_eq_true rfl) (Nat.le_of_ble_eq_true rfl) ?_
  refine lv_iload_n hx hb dX9_of_8 rfl (lv_at hl 2 rfl) ?_
  refine lv_iadd hx hb dX9_of_9 ?_
  refine tp_i (24) (by decide) ?_
  refine ld_i (v := 0) hx hb hN hP 1 rfl (vin (by decide +kernel)) (by first | rfl | decide +kernel) dX9_of_10 ?_
  exact en_i (fun k => ([] : List Nat).getD k 0) hx hb hr hlocks rfl rfl hP hD hS (Nat.le_of_ble_eq_true rfl) (Nat.le_of_ble_eq_true rfl) dX9_of_11
set_option maxHeartbeats 4000000 in
set_option maxRecDepth 100000 in
theorem k463_X9_of (l : Launch) (D : va_G) (cs : Nat → ClassId) (sz : Nat) (a0 a1 a2 a3 a4 a5 a6 : Nat) (x0 : Int32) : KI l yX9_of wsX9_of 1 20 0 0 D cs sz [.ref a0, .int 0, .int 2] [(a0, .inr (9, [.int 0, .ref a2, .int 0, .int 0, .int 0, .int 0, .int 0, .int (-1), .ref a1, .ref a3, .ref a4, .ref a5, .int 1, .int 0, .int 0, .int 0, .int 0, .ref a6])), (a1, .inl (cs 0, 45783, .inl (upd (upd (layF (fun _ => 0) 1) 6 1) 15 x0)))] (fun u => [(a0, .inr (9, [.int 0, .ref a2, .int 0, .int 0, .int 0, .int 0, .int 0, .int (-1), .ref a1, .ref a3, .ref a4, .ref a5, .int 1, .int 0, .int 0, .int 0, .int 0, .ref a6])), (a1, .inl (cs 0, 45783, .inl (upd (upd (layF (fun _ => 0) 1) 6 1) 15 x0)))]) (0) := by
  refine KI.of cX9_of 3 (some .int) (by decide) rfl (Nat.le_of_ble_eq_true rfl) ?_
  intro p e s m below meth c A ls hx hb hr hml hown hts hlocks hin hP hN hD hA hS hl
  have hown : s.vm.findClass RX9 = some m.cls := hown
  have hl : lv_has ls 3 [(0, .ref a0), (1, .int 0), (2, .int 2)] := hl
  refine lv_aload_n hx hb dX9_of_0 rfl (lv_at hl 0 rfl) ?_
  refine va_get (D := D) (ci := 9) (v := .ref a1) (C := RX9) (T := TX9) (N := 18) hx hb hts iX9_of_9 hown hN.1 hP 0 rfl rfl 8 (by decide) (hts _ mX9_of_1) (fun _ h9 => h9) rfl dX9_of_1 ?_
  refine lv_iload_n hx hb dX9_of_4 rfl (lv_at hl 1 rfl) ?_
  refine cs_i (As := [.int 0]) (rest := [.ref a1]) (wr := [(a0, .inr (9, [.int 0, .ref a2, .int 0, .int 0, .int 0, .int 0, .int 0, .int (-1), .ref a1, .ref a3, .ref a4, .ref a5, .int 1, .int 0, .int 0, .int 0, .int 0, .ref a6])), (a1, .inl (cs 0, 45783, .inl (upd (upd (layF (fun _ => 0) 1) 6 1) 15 x0)))]) ⟨hx, hb, hml, hown, hts⟩ (fun sz => k16_X9_playerAt l D cs sz ) (va_cwS 1 hts gX9_of_X9_playerAt rfl rfl rfl hdX9_playerAt_o ⟨Nat.le_of_ble_eq_true rfl, Nat.le_of_ble_eq_true rfl⟩) hN hP hD hS hA [] [0, 1] rfl rfl rfl rfl (by decide) rfl rfl hl.1 (Nat.le_of_ble_eq_true rfl) dX9_of_5 (Nat.le_of_ble_eq_true rfl) (Nat.le_of_ble_eq_true rfl) (fun u0 H locs hP hD hS => ?_)
  have hP : va_P D vwCl [(a0, .inr (9, [.int 0, .ref a2, .int 0, .int 0, .int 0, .int 0, .int 0, .int (-1), .ref a1, .ref a3, .ref a4, .ref a5, .int 1, .int 0, .int 0, .int 0, .int 0, .ref a6])), (a1, .inl (cs 0, 45783, .inl (upd (upd (layF (fun _ => 0) 1) 6 1) 15 x0)))] H := hP
  have hD : va_D A [(a0, .inr (9, [.int 0, .ref a2, .int 0, .int 0, .int 0, .int 0, .int 0, .int (-1), .ref a1, .ref a3, .ref a4, .ref a5, .int 1, .int 0, .int 0, .int 0, .int 0, .ref a6])), (a1, .inl (cs 0, 45783, .inl (upd (upd (layF (fun _ => 0) 1) 6 1) 15 x0)))] := hD
  refine W.widen (k := 0) (n := 0) (Nat.le_of_ble_eq_true rfl) (Nat.le_of_ble_eq_true rfl) ?_
  refine lv_iload_n hx hb dX9_of_8 rfl (lv_at hl 2 rfl) ?_
  refine lv_iadd hx hb dX9_of_9 ?_
  refine tp_i (25) (by decide) ?_
  refine ld_i (v := 0) hx hb hN hP 1 rfl (vin (by decide +kernel)) (by first | rfl | decide +kernel) dX9_of_10 ?_
  exact en_i (fun k => ([] : List Nat).getD k 0) hx hb hr hlocks rfl rfl hP hD hS (Nat.le_of_ble_eq_true rfl) (Nat.le_of_ble_eq_true rfl) dX9_of_11
set_option maxHeartbeats 4000000 in
set_option maxRecDepth 100000 in
theorem k464_X9_clock (l : Launch) (D : va_G) (cs : Nat → ClassId) (sz : Nat) (a0 a1 a2 a3 a4 a5 a6 : Nat) (x0 : Int32) : KI l yX9_clock wsX9_clock 2 42 0 0 D cs sz [.ref a0, .int 0] [(a0, .inr (9, [.int 0, .ref a2, .int 0, .int 0, .int 0, .int 0, .int 0, .int (-1), .ref a1, .ref a3, .ref a4, .ref a5, .int 1, .int 0, .int 0, .int 0, .int 0, .ref a6])), (a1, .inl (cs 0, 45783, .inl (upd (upd (layF (fun _ => 0) 1) 6 1) 15 x0)))] (fun u => [(a0, .inr (9, [.int 0, .ref a2, .int 0, .int 0, .int 0, .int 0, .int 0, .int (-1), .ref a1, .ref a3, .ref a4, .ref a5, .int 1, .int 0, .int 0, .int 0, .int 0, .ref a6])), (a1, .inl (cs 0, 45783, .inl (upd (upd (layF (fun _ => 0) 1) 6 1) 15 x0)))]) (0) := by
  refine KI.of cX9_clock 2 (some .int) (by decide) rfl (Nat.le_of_ble_eq_true rfl) ?_
  intro p e s m below meth c A ls hx hb hr hml hown hts hlocks hin hP hN hD hA hS hl
  have hown : s.vm.findClass RX9 = some m.cls := hown
  have hl : lv_has ls 2 [(0, .ref a0), (1, .int 0)] := hl
  refine lv_aload_n hx hb dX9_clock_0 rfl (lv_at hl 0 rfl) ?_
  refine va_get (D := D) (ci := 9) (v := .ref a1) (C := RX9) (T := TX9) (N := 18) hx hb hts iX9_clock_9 hown hN.1 hP 0 rfl rfl 8 (by decide) (hts _ mX9_clock_1) (fun _ h9 => h9) rfl dX9_clock_1 ?_
  refine lv_iconst (v := 1) hx hb dX9_clock_4 (by decide) ?_
  refine ld_i (v := 0) hx hb hN hP 1 rfl (vin (by decide +kernel)) (by first | rfl | decide +kernel) dX9_clock_5 ?_
  refine lv_aload_n hx hb dX9_clock_6 rfl (lv_at hl 0 rfl) ?_
  refine lv_iload_n hx hb dX9_clock_7 rfl (lv_at hl 1 rfl) ?_
  refine lv_iconst (v := 1) hx hb dX9_clock_8 (by decide) ?_
  refine cv_i (As := [.int 0, .int 1]) (rest := [.int 0]) (b := a0) (wr := []) ⟨hx, hb, hml, hown, hts⟩ (fun sz => k462_X9_of l D cs sz a0 a1 a2 a3 a4 a5 a6 (x0)) (cwV 2 hts gX9_clock_X9_of rfl rfl rfl hdX9_of_v ⟨Nat.le_of_ble_eq_true rfl, Nat.le_of_ble_eq_true rfl⟩) hN hP hD hS hA [0, 1] [] rfl rfl rfl rfl (by decide) (ci := 9) (q0 := 0) rfl rfl rfl rfl hl.1 (Nat.le_of_ble_eq_true rfl) dX9_clock_9 (Nat.le_of_ble_eq_true rfl) (Nat.le_of_ble_eq_true rfl) (fun u0 H locs hP hD hS => ?_)
  have hP : va_P D vwCl [(a0, .inr (9, [.int 0, .ref a2, .int 0, .int 0, .int 0, .int 0, .int 0, .int (-1), .ref a1, .ref a3, .ref a4, .ref a5, .int 1, .int 0, .int 0, .int 0, .int 0, .ref a6])), (a1, .inl (cs 0, 45783, .inl (upd (upd (layF (fun _ => 0) 1) 6 1) 15 x0)))] H := hP
  have hD : va_D A [(a0, .inr (9, [.int 0, .ref a2, .int 0, .int 0, .int 0, .int 0, .int 0, .int (-1), .ref a1, .ref a3, .ref a4, .ref a5, .int 1, .int 0, .int 0, .int 0, .int 0, .ref a6])), (a1, .inl (cs 0, 45783, .inl (upd (upd (layF (fun _ => 0) 1) 6 1) 15 x0)))] := hD
  refine W.widen (k := 0) (n := 0) (Nat.le_of_ble_eq_true rfl) (Nat.le_of_ble_eq_true rfl) ?_
  refine lv_iadd hx hb dX9_clock_12 ?_
  refine tp_i (0) (by decide) ?_
  refine lv_aload_n hx hb dX9_clock_13 rfl (lv_at hl 0 rfl) ?_
  refine va_get (D := D) (ci := 9) (v := .ref a1) (C := RX9) (T := TX9) (N := 18) hx hb hts iX9_clock_9 hown hN.1 hP 0 rfl rfl 8 (by decide) (hts _ mX9_clock_1) (fun _ h9 => h9) rfl dX9_clock_14 ?_
  refine lv_iconst (v := 1) hx hb dX9_clock_17 (by decide) ?_
  refine ld_i (v := 0) hx hb hN hP 1 rfl (vin (by decide +kernel)) (by first | rfl | decide +kernel) dX9_clock_18 ?_
  refine lv_aload_n hx hb dX9_clock_19 rfl (lv_at hl 0 rfl) ?_
  refine lv_iload_n hx hb dX9_clock_20 rfl (lv_at hl 1 rfl) ?_
  refine lv_iconst (v := 2) hx hb dX9_clock_21 (by decide) ?_
  refine cv_i (As := [.int 0, .int 2]) (rest := [.int 0, .int 0]) (b := a0) (wr := []) ⟨hx, hb, hml, hown, hts⟩ (fun sz => k463_X9_of l D cs sz a0 a1 a2 a3 a4 a5 a6 (x0)) (cwV 2 hts gX9_clock_X9_of rfl rfl rfl hdX9_of_v ⟨Nat.le_of_ble_eq_true rfl, Nat.le_of_ble_eq_true rfl⟩) hN hP hD hS hA [0, 1] [] rfl rfl rfl rfl (by decide) (ci := 9) (q0 := 0) rfl rfl rfl rfl hl.1 (Nat.le_of_ble_eq_true rfl) dX9_clock_22 (Nat.le_of_ble_eq_true rfl) (Nat.le_of_ble_eq_true rfl) (fun u1 H locs hP hD hS => ?_)
  have hP : va_P D vwCl [(a0, .inr (9, [.int 0, .ref a2, .int 0, .int 0, .int 0, .int 0, .int 0, .int (-1), .ref a1, .ref a3, .ref a4, .ref a5, .int 1, .int 0, .int 0, .int 0, .int 0, .ref a6])), (a1, .inl (cs 0, 45783, .inl (upd (upd (layF (fun _ => 0) 1) 6 1) 15 x0)))] H := hP
  have hD : va_D A [(a0, .inr (9, [.int 0, .ref a2, .int 0, .int 0, .int 0, .int 0, .int 0, .int (-1), .ref a1, .ref a3, .ref a4, .ref a5, .int 1, .int 0, .int 0, .int 0, .int 0, .ref a6])), (a1, .inl (cs 0, 45783, .inl (upd (upd (layF (fun _ => 0) 1) 6 1) 15 x0)))] := hD
  refine W.widen (k := 0) (n := 0) (Nat.le_of_ble_eq_true rfl) (Nat.le_of_ble_eq_true rfl) ?_
  refine lv_imul hx hb dX9_clock_25 ?_
  refine tp_i (0) (by decide) ?_
  refine lv_sipush (v := 1000) hx hb dX9_clock_26 (by decide) ?_
  refine lv_idiv hx hb dX9_clock_29 (by decide) ?_
  refine tp_i (0) (by decide) ?_
  refine lv_iadd hx hb dX9_clock_30 ?_
  refine tp_i (0) (by decide) ?_
  exact en_i (fun k => ([] : List Nat).getD k 0) hx hb hr hlocks rfl rfl hP hD hS (Nat.le_of_ble_eq_true rfl) (Nat.le_of_ble_eq_true rfl) dX9_clock_31
set_option maxHeartbeats 4000000 in
set_option maxRecDepth 100000 in
theorem k465_X9_of (l : Launch) (D : va_G) (cs : Nat → ClassId) (sz : Nat) (a0 a1 a2 a3 a4 a5 a6 : Nat) (x0 : Int32) : KI l yX9_of wsX9_of 1 20 0 0 D cs sz [.ref a0, .int 0, .int 5] [(a0, .inr (9, [.int 0, .ref a2, .int 0, .int 0, .int 0, .int 0, .int 0, .int (-1), .ref a1, .ref a3, .ref a4, .ref a5, .int 1, .int 0, .int 0, .int 0, .int 0, .ref a6])), (a1, .inl (cs 0, 45783, .inl (upd (upd (upd (upd (layF (fun _ => 0) 1) 6 1) 15 x0) 16 1) 17 50)))] (fun u => [(a0, .inr (9, [.int 0, .ref a2, .int 0, .int 0, .int 0, .int 0, .int 0, .int (-1), .ref a1, .ref a3, .ref a4, .ref a5, .int 1, .int 0, .int 0, .int 0, .int 0, .ref a6])), (a1, .inl (cs 0, 45783, .inl (upd (upd (upd (upd (layF (fun _ => 0) 1) 6 1) 15 x0) 16 1) 17 50)))]) (0) := by
  refine KI.of cX9_of 3 (some .int) (by decide) rfl (Nat.le_of_ble_eq_true rfl) ?_
  intro p e s m below meth c A ls hx hb hr hml hown hts hlocks hin hP hN hD hA hS hl
  have hown : s.vm.findClass RX9 = some m.cls := hown
  have hl : lv_has ls 3 [(0, .ref a0), (1, .int 0), (2, .int 5)] := hl
  refine lv_aload_n hx hb dX9_of_0 rfl (lv_at hl 0 rfl) ?_
  refine va_get (D := D) (ci := 9) (v := .ref a1) (C := RX9) (T := TX9) (N := 18) hx hb hts iX9_of_9 hown hN.1 hP 0 rfl rfl 8 (by decide) (hts _ mX9_of_1) (fun _ h9 => h9) rfl dX9_of_1 ?_
  refine lv_iload_n hx hb dX9_of_4 rfl (lv_at hl 1 rfl) ?_
  refine cs_i (As := [.int 0]) (rest := [.ref a1]) (wr := [(a0, .inr (9, [.int 0, .ref a2, .int 0, .int 0, .int 0, .int 0, .int 0, .int (-1), .ref a1, .ref a3, .ref a4, .ref a5, .int 1, .int 0, .int 0, .int 0, .int 0, .ref a6])), (a1, .inl (cs 0, 45783, .inl (upd (upd (upd (upd (layF (fun _ => 0) 1) 6 1) 15 x0) 16 1) 17 50)))]) ⟨hx, hb, hml, hown, hts⟩ (fun sz => k16_X9_playerAt l D cs sz ) (va_cwS 1 hts gX9_of_X9_playerAt rfl rfl rfl hdX9_playerAt_o ⟨Nat.le_of_ble_eq_true rfl, Nat.le_of_ble_eq_true rfl⟩) hN hP hD hS hA [] [0, 1] rfl rfl rfl rfl (by decide) rfl rfl hl.1 (Nat.le_of_ble_eq_true rfl) dX9_of_5 (Nat.le_of_ble_eq_true rfl) (Nat.le_of_ble_eq_true rfl) (fun u0 H locs hP hD hS => ?_)
  have hP : va_P D vwCl [(a0, .inr (9, [.int 0, .ref a2, .int 0, .int 0, .int 0, .int 0, .int 0, .int (-1), .ref a1, .ref a3, .ref a4, .ref a5, .int 1, .int 0, .int 0, .int 0, .int 0, .ref a6])), (a1, .inl (cs 0, 45783, .inl (upd (upd (upd (upd (layF (fun _ => 0) 1) 6 1) 15 x0) 16 1) 17 50)))] H := hP
  have hD : va_D A [(a0, .inr (9, [.int 0, .ref a2, .int 0, .int 0, .int 0, .int 0, .int 0, .int (-1), .ref a1, .ref a3, .ref a4, .ref a5, .int 1, .int 0, .int 0, .int 0, .int 0, .ref a6])), (a1, .inl (cs 0, 45783, .inl (upd (upd (upd (upd (layF (fun _ => 0) 1) 6 1) 15 x0) 16 1) 17 50)))] := hD
  refine W.widen (k := 0) (n := 0) (Nat.le_of_ble_eq_true rfl) (Nat.le_of_ble_eq_true rfl) ?_
  refine lv_iload_n hx hb dX9_of_8 rfl (lv_at hl 2 rfl) ?_
  refine lv_iadd hx hb dX9_of_9 ?_
  refine tp_i (28) (by decide) ?_
  refine ld_i (v := 0) hx hb hN hP 1 rfl (vin (by decide +kernel)) (by first | rfl | decide +kernel) dX9_of_10 ?_
  exact en_i (fun k => ([] : List Nat).getD k 0) hx hb hr hlocks rfl rfl hP hD hS (Nat.le_of_ble_eq_true rfl) (Nat.le_of_ble_eq_true rfl) dX9_of_11
set_option maxHeartbeats 4000000 in
set_option maxRecDepth 100000 in
theorem k466_X9_set (l : Launch) (D : va_G) (cs : Nat → ClassId) (sz : Nat) (a0 a1 a2 a3 a4 a5 a6 : Nat) (x0 : Int32) : KV l yX9_set wsX9_set 1 20 0 0 D cs sz [.ref a0, .int 0, .int 5, .int 1] [(a0, .inr (9, [.int 0, .ref a2, .int 0, .int 0, .int 0, .int 0, .int 0, .int (-1), .ref a1, .ref a3, .ref a4, .ref a5, .int 1, .int 0, .int 0, .int 0, .int 0, .ref a6])), (a1, .inl (cs 0, 45783, .inl (upd (upd (upd (upd (layF (fun _ => 0) 1) 6 1) 15 x0) 16 1) 17 50)))] (fun u => [(a0, .inr (9, [.int 0, .ref a2, .int 0, .int 0, .int 0, .int 0, .int 0, .int (-1), .ref a1, .ref a3, .ref a4, .ref a5, .int 1, .int 0, .int 0, .int 0, .int 0, .ref a6])), (a1, .inl (cs 0, 45783, .inl (upd (upd (upd (upd (upd (layF (fun _ => 0) 1) 6 1) 15 x0) 16 1) 17 50) 28 1)))]) := by
  refine KV.of cX9_set 4 none (by decide) rfl (Nat.le_of_ble_eq_true rfl) ?_
  intro p e s m below meth c A ls hx hb hr hml hown hts hlocks hin hP hN hD hA hS hl
  have hown : s.vm.findClass RX9 = some m.cls := hown
  have hl : lv_has ls 4 [(0, .ref a0), (1, .int 0), (2, .int 5), (3, .int 1)] := hl
  refine lv_aload_n hx hb dX9_set_0 rfl (lv_at hl 0 rfl) ?_
  refine va_get (D := D) (ci := 9) (v := .ref a1) (C := RX9) (T := TX9) (N := 18) hx hb hts iX9_set_9 hown hN.1 hP 0 rfl rfl 8 (by decide) (hts _ mX9_set_1) (fun _ h9 => h9) rfl dX9_set_1 ?_
  refine lv_iload_n hx hb dX9_set_4 rfl (lv_at hl 1 rfl) ?_
  refine cs_i (As := [.int 0]) (rest := [.ref a1]) (wr := [(a0, .inr (9, [.int 0, .ref a2, .int 0, .int 0, .int 0, .int 0, .int 0, .int (-1), .ref a1, .ref a3, .ref a4, .ref a5, .int 1, .int 0, .int 0, .int 0, .int 0, .ref a6])), (a1, .inl (cs 0, 45783, .inl (upd (upd (upd (upd (layF (fun _ => 0) 1) 6 1) 15 x0) 16 1) 17 50)))]) ⟨hx, hb, hml, hown, hts⟩ (fun sz => k16_X9_playerAt l D cs sz ) (va_cwS 1 hts gX9_set_X9_playerAt rfl rfl rfl hdX9_playerAt_o ⟨Nat.le_of_ble_eq_true rfl, Nat.le_of_ble_eq_true rfl⟩) hN hP hD hS hA [] [0, 1] rfl rfl rfl rfl (by decide) rfl rfl hl.1 (Nat.le_of_ble_eq_true rfl) dX9_set_5 (Nat.le_of_ble_eq_true rfl) (Nat.le_of_ble_eq_true rfl) (fun u0 H locs hP hD hS => ?_)
  have hP : va_P D vwCl [(a0, .inr (9, [.int 0, .ref a2, .int 0, .int 0, .int 0, .int 0, .int 0, .int (-1), .ref a1, .ref a3, .ref a4, .ref a5, .int 1, .int 0, .int 0, .int 0, .int 0, .ref a6])), (a1, .inl (cs 0, 45783, .inl (upd (upd (upd (upd (layF (fun _ => 0) 1) 6 1) 15 x0) 16 1) 17 50)))] H := hP
  have hD : va_D A [(a0, .inr (9, [.int 0, .ref a2, .int 0, .int 0, .int 0, .int 0, .int 0, .int (-1), .ref a1, .ref a3, .ref a4, .ref a5, .int 1, .int 0, .int 0, .int 0, .int 0, .ref a6])), (a1, .inl (cs 0, 45783, .inl (upd (upd (upd (upd (layF (fun _ => 0) 1) 6 1) 15 x0) 16 1) 17 50)))] := hD
  refine W.widen (k := 0) (n := 0) (Nat.le_of_ble_eq_true rfl) (Nat.le_of_ble_eq_true rfl) ?_
  refine lv_iload_n hx hb dX9_set_8 rfl (lv_at hl 2 rfl) ?_
  refine lv_iadd hx hb dX9_set_9 ?_
  refine tp_i (28) (by decide) ?_
  refine lv_iload_n hx hb dX9_set_10 rfl (lv_at hl 3 rfl) ?_
  refine st_i (g := (upd (upd (upd (upd (upd (layF (fun _ => 0) 1) 6 1) 15 x0) 16 1) 17 50) 28 1)) hx hb hN hP hD hS 1 rfl (vin (by decide +kernel)) rfl dX9_set_11 (fun H locs hP hD hS => ?_)
  have hP : va_P D vwCl [(a0, .inr (9, [.int 0, .ref a2, .int 0, .int 0, .int 0, .int 0, .int 0, .int (-1), .ref a1, .ref a3, .ref a4, .ref a5, .int 1, .int 0, .int 0, .int 0, .int 0, .ref a6])), (a1, .inl (cs 0, 45783, .inl (upd (upd (upd (upd (upd (layF (fun _ => 0) 1) 6 1) 15 x0) 16 1) 17 50) 28 1)))] H := hP
  have hD : va_D A [(a0, .inr (9, [.int 0, .ref a2, .int 0, .int 0, .int 0, .int 0, .int 0, .int (-1), .ref a1, .ref a3, .ref a4, .ref a5, .int 1, .int 0, .int 0, .int 0, .int 0, .ref a6])), (a1, .inl (cs 0, 45783, .inl (upd (upd (upd (upd (upd (layF (fun _ => 0) 1) 6 1) 15 x0) 16 1) 17 50) 28 1)))] := hD
  exact en_v (fun k => ([] : List Nat).getD k 0) hx hb hr hlocks hP hD hS (Nat.le_of_ble_eq_true rfl) (Nat.le_of_ble_eq_true rfl) dX9_set_12
set_option maxHeartbeats 4000000 in
set_option maxRecDepth 100000 in
theorem k467_X9_set (l : Launch) (D : va_G) (cs : Nat → ClassId) (sz : Nat) (a0 a1 a2 a3 a4 a5 a6 : Nat) (x0 : Int32) : KV l yX9_set wsX9_set 1 20 0 0 D cs sz [.ref a0, .int 0, .int 6, .int 0] [(a0, .inr (9, [.int 0, .ref a2, .int 0, .int 0, .int 0, .int 0, .int 0, .int (-1), .ref a1, .ref a3, .ref a4, .ref a5, .int 1, .int 0, .int 0, .int 0, .int 0, .ref a6])), (a1, .inl (cs 0, 45783, .inl (upd (upd (upd (upd (upd (layF (fun _ => 0) 1) 6 1) 15 x0) 16 1) 17 50) 28 1)))] (fun u => [(a0, .inr (9, [.int 0, .ref a2, .int 0, .int 0, .int 0, .int 0, .int 0, .int (-1), .ref a1, .ref a3, .ref a4, .ref a5, .int 1, .int 0, .int 0, .int 0, .int 0, .ref a6])), (a1, .inl (cs 0, 45783, .inl (upd (upd (upd (upd (upd (upd (layF (fun _ => 0) 1) 6 1) 15 x0) 16 1) 17 50) 28 1) 29 0)))]) := by
  refine KV.of cX9_set 4 none (by decide) rfl (Nat.le_of_ble_eq_true rfl) ?_
  intro p e s m below meth c A ls hx hb hr hml hown hts hlocks hin hP hN hD hA hS hl
  have hown : s.vm.findClass RX9 = some m.cls := hown
  have hl : lv_has ls 4 [(0, .ref a0), (1, .int 0), (2, .int 6), (3, .int 0)] := hl
  refine lv_aload_n hx hb dX9_set_0 rfl (lv_at hl 0 rfl) ?_
  refine va_get (D := D) (ci := 9) (v := .ref a1) (C := RX9) (T := TX9) (N := 18) hx hb hts iX9_set_9 hown hN.1 hP 0 rfl rfl 8 (by decide) (hts _ mX9_set_1) (fun _ h9 => h9) rfl dX9_set_1 ?_
  refine lv_iload_n hx hb dX9_set_4 rfl (lv_at hl 1 rfl) ?_
  refine cs_i (As := [.int 0]) (rest := [.ref a1]) (wr := [(a0, .inr (9, [.int 0, .ref a2, .int 0, .int 0, .int 0, .int 0, .int 0, .int (-1), .ref a1, .ref a3, .ref a4, .ref a5, .int 1, .int 0, .int 0, .int 0, .int 0, .ref a6])), (a1, .inl (cs 0, 45783, .inl (upd (upd (upd (upd (upd (layF (fun _ => 0) 1) 6 1) 15 x0) 16 1) 17 50) 28 1)))]) ⟨hx, hb, hml, hown, hts⟩ (fun sz => k16_X9_playerAt l D cs sz ) (va_cwS 1 hts gX9_set_X9_playerAt rfl rfl rfl hdX9_playerAt_o ⟨Nat.le_of_ble_eq_true rfl, Nat.le_of_ble_eq_true rfl⟩) hN hP hD hS hA [] [0, 1] rfl rfl rfl rfl (by decide) rfl rfl hl.1 (Nat.le_of_ble_eq_true rfl) dX9_set_5 (Nat.le_of_ble_eq_true rfl) (Nat.le_of_ble_eq_true rfl) (fun u0 H locs hP hD hS => ?_)
  have hP : va_P D vwCl [(a0, .inr (9, [.int 0, .ref a2, .int 0, .int 0, .int 0, .int 0, .int 0, .int (-1), .ref a1, .ref a3, .ref a4, .ref a5, .int 1, .int 0, .int 0, .int 0, .int 0, .ref a6])), (a1, .inl (cs 0, 45783, .inl (upd (upd (upd (upd (upd (layF (fun _ => 0) 1) 6 1) 15 x0) 16 1) 17 50) 28 1)))] H := hP
  have hD : va_D A [(a0, .inr (9, [.int 0, .ref a2, .int 0, .int 0, .int 0, .int 0, .int 0, .int (-1), .ref a1, .ref a3, .ref a4, .ref a5, .int 1, .int 0, .int 0, .int 0, .int 0, .ref a6])), (a1, .inl (cs 0, 45783, .inl (upd (upd (upd (upd (upd (layF (fun _ => 0) 1) 6 1) 15 x0) 16 1) 17 50) 28 1)))] := hD
  refine W.widen (k := 0) (n := 0) (Nat.le_of_ble_eq_true rfl) (Nat.le_of_ble_eq_true rfl) ?_
  refine lv_iload_n hx hb dX9_set_8 rfl (lv_at hl 2 rfl) ?_
  refine lv_iadd hx hb dX9_set_9 ?_
  refine tp_i (29) (by decide) ?_
  refine lv_iload_n hx hb dX9_set_10 rfl (lv_at hl 3 rfl) ?_
  refine st_i (g := (upd (upd (upd (upd (upd (upd (layF (fun _ => 0) 1) 6 1) 15 x0) 16 1) 17 50) 28 1) 29 0)) hx hb hN hP hD hS 1 rfl (vin (by decide +kernel)) rfl dX9_set_11 (fun H locs hP hD hS => ?_)
  have hP : va_P D vwCl [(a0, .inr (9, [.int 0, .ref a2, .int 0, .int 0, .int 0, .int 0, .int 0, .int (-1), .ref a1, .ref a3, .ref a4, .ref a5, .int 1, .int 0, .int 0, .int 0, .int 0, .ref a6])), (a1, .inl (cs 0, 45783, .inl (upd (upd (upd (upd (upd (upd (layF (fun _ => 0) 1) 6 1) 15 x0) 16 1) 17 50) 28 1) 29 0)))] H := hP
  have hD : va_D A [(a0, .inr (9, [.int 0, .ref a2, .int 0, .int 0, .int 0, .int 0, .int 0, .int (-1), .ref a1, .ref a3, .ref a4, .ref a5, .int 1, .int 0, .int 0, .int 0, .int 0, .ref a6])), (a1, .inl (cs 0, 45783, .inl (upd (upd (upd (upd (upd (upd (layF (fun _ => 0) 1) 6 1) 15 x0) 16 1) 17 50) 28 1) 29 0)))] := hD
  exact en_v (fun k => ([] : List Nat).getD k 0) hx hb hr hlocks hP hD hS (Nat.le_of_ble_eq_true rfl) (Nat.le_of_ble_eq_true rfl) dX9_set_12
set_option maxHeartbeats 4000000 in
set_option maxRecDepth 100000 in
theorem k468_X9_set (l : Launch) (D : va_G) (cs : Nat → ClassId) (sz : Nat) (a0 a1 a2 a3 a4 a5 a6 : Nat) (x0 : Int32) : KV l yX9_set wsX9_set 1 20 0 0 D cs sz [.ref a0, .int 0, .int 8, .int 1] [(a0, .inr (9, [.int 0, .ref a2, .int 0, .int 0, .int 0, .int 0, .int 0, .int (-1), .ref a1, .ref a3, .ref a4, .ref a5, .int 1, .int 0, .int 0, .int 0, .int 0, .ref a6])), (a1, .inl (cs 0, 45783, .inl (upd (upd (upd (upd (upd (upd (layF (fun _ => 0) 1) 6 1) 15 x0) 16 1) 17 50) 28 1) 29 0)))] (fun u => [(a0, .inr (9, [.int 0, .ref a2, .int 0, .int 0, .int 0, .int 0, .int 0, .int (-1), .ref a1, .ref a3, .ref a4, .ref a5, .int 1, .int 0, .int 0, .int 0, .int 0, .ref a6])), (a1, .inl (cs 0, 45783, .inl (upd (upd (upd (upd (upd (upd (upd (layF (fun _ => 0) 1) 6 1) 15 x0) 16 1) 17 50) 28 1) 29 0) 31 1)))]) := by
  refine KV.of cX9_set 4 none (by decide) rfl (Nat.le_of_ble_eq_true rfl) ?_
  intro p e s m below meth c A ls hx hb hr hml hown hts hlocks hin hP hN hD hA hS hl
  have hown : s.vm.findClass RX9 = some m.cls := hown
  have hl : lv_has ls 4 [(0, .ref a0), (1, .int 0), (2, .int 8), (3, .int 1)] := hl
  refine lv_aload_n hx hb dX9_set_0 rfl (lv_at hl 0 rfl) ?_
  refine va_get (D := D) (ci := 9) (v := .ref a1) (C := RX9) (T := TX9) (N := 18) hx hb hts iX9_set_9 hown hN.1 hP 0 rfl rfl 8 (by decide) (hts _ mX9_set_1) (fun _ h9 => h9) rfl dX9_set_1 ?_
  refine lv_iload_n hx hb dX9_set_4 rfl (lv_at hl 1 rfl) ?_
  refine cs_i (As := [.int 0]) (rest := [.ref a1]) (wr := [(a0, .inr (9, [.int 0, .ref a2, .int 0, .int 0, .int 0, .int 0, .int 0, .int (-1), .ref a1, .ref a3, .ref a4, .ref a5, .int 1, .int 0, .int 0, .int 0, .int 0, .ref a6])), (a1, .inl (cs 0, 45783, .inl (upd (upd (upd (upd (upd (upd (layF (fun _ => 0) 1) 6 1) 15 x0) 16 1) 17 50) 28 1) 29 0)))]) ⟨hx, hb, hml, hown, hts⟩ (fun sz => k16_X9_playerAt l D cs sz ) (va_cwS 1 hts gX9_set_X9_playerAt rfl rfl rfl hdX9_playerAt_o ⟨Nat.le_of_ble_eq_true rfl, Nat.le_of_ble_eq_true rfl⟩) hN hP hD hS hA [] [0, 1] rfl rfl rfl rfl (by decide) rfl rfl hl.1 (Nat.le_of_ble_eq_true rfl) dX9_set_5 (Nat.le_of_ble_eq_true rfl) (Nat.le_of_ble_eq_true rfl) (fun u0 H locs hP hD hS => ?_)
  have hP : va_P D vwCl [(a0, .inr (9, [.int 0, .ref a2, .int 0, .int 0, .int 0, .int 0, .int 0, .int (-1), .ref a1, .ref a3, .ref a4, .ref a5, .int 1, .int 0, .int 0, .int 0, .int 0, .ref a6])), (a1, .inl (cs 0, 45783, .inl (upd (upd (upd (upd (upd (upd (layF (fun _ => 0) 1) 6 1) 15 x0) 16 1) 17 50) 28 1) 29 0)))] H := hP
  have hD : va_D A [(a0, .inr (9, [.int 0, .ref a2, .int 0, .int 0, .int 0, .int 0, .int 0, .int (-1), .ref a1, .ref a3, .ref a4, .ref a5, .int 1, .int 0, .int 0, .int 0, .int 0, .ref a6])), (a1, .inl (cs 0, 45783, .inl (upd (upd (upd (upd (upd (upd (layF (fun _ => 0) 1) 6 1) 15 x0) 16 1) 17 50) 28 1) 29 0)))] := hD
  refine W.widen (k := 0) (n := 0) (Nat.le_of_ble_eq_true rfl) (Nat.le_of_ble_eq_true rfl) ?_
  refine lv_iload_n hx hb dX9_set_8 rfl (lv_at hl 2 rfl) ?_
  refine lv_iadd hx hb dX9_set_9 ?_
  refine tp_i (31) (by decide) ?_
  refine lv_iload_n hx hb dX9_set_10 rfl (lv_at hl 3 rfl) ?_
  refine st_i (g := (upd (upd (upd (upd (upd (upd (upd (layF (fun _ => 0) 1) 6 1) 15 x0) 16 1) 17 50) 28 1) 29 0) 31 1)) hx hb hN hP hD hS 1 rfl (vin (by decide +kernel)) rfl dX9_set_11 (fun H locs hP hD hS => ?_)
  have hP : va_P D vwCl [(a0, .inr (9, [.int 0, .ref a2, .int 0, .int 0, .int 0, .int 0, .int 0, .int (-1), .ref a1, .ref a3, .ref a4, .ref a5, .int 1, .int 0, .int 0, .int 0, .int 0, .ref a6])), (a1, .inl (cs 0, 45783, .inl (upd (upd (upd (upd (upd (upd (upd (layF (fun _ => 0) 1) 6 1) 15 x0) 16 1) 17 50) 28 1) 29 0) 31 1)))] H := hP
  have hD : va_D A [(a0, .inr (9, [.int 0, .ref a2, .int 0, .int 0, .int 0, .int 0, .int 0, .int (-1), .ref a1, .ref a3, .ref a4, .ref a5, .int 1, .int 0, .int 0, .int 0, .int 0, .ref a6])), (a1, .inl (cs 0, 45783, .inl (upd (upd (upd (upd (upd (upd (upd (layF (fun _ => 0) 1) 6 1) 15 x0) 16 1) 17 50) 28 1) 29 0) 31 1)))] := hD
  exact en_v (fun k => ([] : List Nat).getD k 0) hx hb hr hlocks hP hD hS (Nat.le_of_ble_eq_true rfl) (Nat.le_of_ble_eq_true rfl) dX9_set_12
set_option maxHeartbeats 4000000 in
set_option maxRecDepth 100000 in
theorem k469_X9_set (l : Launch) (D : va_G) (cs : Nat → ClassId) (sz : Nat) (a0 a1 a2 a3 a4 a5 a6 : Nat) (x0 : Int32) : KV l yX9_set wsX9_set 1 20 0 0 D cs sz [.ref a0, .int 0, .int 7, .int x0] [(a0, .inr (9, [.int 0, .ref a2, .int 0, .int 0, .int 0, .int 0, .int 0, .int (-1), .ref a1, .ref a3, .ref a4, .ref a5, .int 1, .int 0, .int 0, .int 0, .int 0, .ref a6])), (a1, .inl (cs 0, 45783, .inl (upd (upd (upd (upd (upd (upd (upd (layF (fun _ => 0) 1) 6 1) 15 x0) 16 1) 17 50) 28 1) 29 0) 31 1)))] (fun u => [(a0, .inr (9, [.int 0, .ref a2, .int 0, .int 0, .int 0, .int 0, .int 0, .int (-1), .ref a1, .ref a3, .ref a4, .ref a5, .int 1, .int 0, .int 0, .int 0, .int 0, .ref a6])), (a1, .inl (cs 0, 45783, .inl (upd (upd (upd (upd (upd (upd (upd (upd (layF (fun _ => 0) 1) 6 1) 15 x0) 16 1) 17 50) 28 1) 29 0) 31 1) 30 x0)))]) := by
  refine KV.of cX9_set 4 none (by decide) rfl (Nat.le_of_ble_eq_true rfl) ?_
  intro p e s m below meth c A ls hx hb hr hml hown hts hlocks hin hP hN hD hA hS hl
  have hown : s.vm.findClass RX9 = some m.cls := hown
  have hl : lv_has ls 4 [(0, .ref a0), (1, .int 0), (2, .int 7), (3, .int x0)] := hl
  refine lv_aload_n hx hb dX9_set_0 rfl (lv_at hl 0 rfl) ?_
  refine va_get (D := D) (ci := 9) (v := .ref a1) (C := RX9) (T := TX9) (N := 18) hx hb hts iX9_set_9 hown hN.1 hP 0 rfl rfl 8 (by decide) (hts _ mX9_set_1) (fun _ h9 => h9) rfl dX9_set_1 ?_
  refine lv_iload_n hx hb dX9_set_4 rfl (lv_at hl 1 rfl) ?_
  refine cs_i (As := [.int 0]) (rest := [.ref a1]) (wr := [(a0, .inr (9, [.int 0, .ref a2, .int 0, .int 0, .int 0, .int 0, .int 0, .int (-1), .ref a1, .ref a3, .ref a4, .ref a5, .int 1, .int 0, .int 0, .int 0, .int 0, .ref a6])), (a1, .inl (cs 0, 45783, .inl (upd (upd (upd (upd (upd (upd (upd (layF (fun _ => 0) 1) 6 1) 15 x0) 16 1) 17 50) 28 1) 29 0) 31 1)))]) ⟨hx, hb, hml, hown, hts⟩ (fun sz => k16_X9_playerAt l D cs sz ) (va_cwS 1 hts gX9_set_X9_playerAt rfl rfl rfl hdX9_playerAt_o ⟨Nat.le_of_ble_eq_true rfl, Nat.le_of_ble_eq_true rfl⟩) hN hP hD hS hA [] [0, 1] rfl rfl rfl rfl (by decide) rfl rfl hl.1 (Nat.le_of_ble_eq_true rfl) dX9_set_5 (Nat.le_of_ble_eq_true rfl) (Nat.le_of_ble_eq_true rfl) (fun u0 H locs hP hD hS => ?_)
  have hP : va_P D vwCl [(a0, .inr (9, [.int 0, .ref a2, .int 0, .int 0, .int 0, .int 0, .int 0, .int (-1), .ref a1, .ref a3, .ref a4, .ref a5, .int 1, .int 0, .int 0, .int 0, .int 0, .ref a6])), (a1, .inl (cs 0, 45783, .inl (upd (upd (upd (upd (upd (upd (upd (layF (fun _ => 0) 1) 6 1) 15 x0) 16 1) 17 50) 28 1) 29 0) 31 1)))] H := hP
  have hD : va_D A [(a0, .inr (9, [.int 0, .ref a2, .int 0, .int 0, .int 0, .int 0, .int 0, .int (-1), .ref a1, .ref a3, .ref a4, .ref a5, .int 1, .int 0, .int 0, .int 0, .int 0, .ref a6])), (a1, .inl (cs 0, 45783, .inl (upd (upd (upd (upd (upd (upd (upd (layF (fun _ => 0) 1) 6 1) 15 x0) 16 1) 17 50) 28 1) 29 0) 31 1)))] := hD
  refine W.widen (k := 0) (n := 0) (Nat.le_of_ble_eq_true rfl) (Nat.le_of_ble_eq_true rfl) ?_
  refine lv_iload_n hx hb dX9_set_8 rfl (lv_at hl 2 rfl) ?_
  refine lv_iadd hx hb dX9_set_9 ?_
  refine tp_i (30) (by decide) ?_
  refine lv_iload_n hx hb dX9_set_10 rfl (lv_at hl 3 rfl) ?_
  refine st_i (g := (upd (upd (upd (upd (upd (upd (upd (upd (layF (fun _ => 0) 1) 6 1) 15 x0) 16 1) 17 50) 28 1) 29 0) 31 1) 30 x0)) hx hb hN hP hD hS 1 rfl (vin (by decide +kernel)) rfl dX9_set_11 (fun H locs hP hD hS => ?_)
  have hP : va_P D vwCl [(a0, .inr (9, [.int 0, .ref a2, .int 0, .int 0, .int 0, .int 0, .int 0, .int (-1), .ref a1, .ref a3, .ref a4, .ref a5, .int 1, .int 0, .int 0, .int 0, .int 0, .ref a6])), (a1, .inl (cs 0, 45783, .inl (upd (upd (upd (upd (upd (upd (upd (upd (layF (fun _ => 0) 1) 6 1) 15 x0) 16 1) 17 50) 28 1) 29 0) 31 1) 30 x0)))] H := hP
  have hD : va_D A [(a0, .inr (9, [.int 0, .ref a2, .int 0, .int 0, .int 0, .int 0, .int 0, .int (-1), .ref a1, .ref a3, .ref a4, .ref a5, .int 1, .int 0, .int 0, .int 0, .int 0, .ref a6])), (a1, .inl (cs 0, 45783, .inl (upd (upd (upd (upd (upd (upd (upd (upd (layF (fun _ => 0) 1) 6 1) 15 x0) 16 1) 17 50) 28 1) 29 0) 31 1) 30 x0)))] := hD
  exact en_v (fun k => ([] : List Nat).getD k 0) hx hb hr hlocks hP hD hS (Nat.le_of_ble_eq_true rfl) (Nat.le_of_ble_eq_true rfl) dX9_set_12
set_option maxHeartbeats 4000000 in
set_option maxRecDepth 100000 in
theorem k470_X9_plan (l : Launch) (D : va_G) (cs : Nat → ClassId) (sz : Nat) (a0 a1 a2 a3 a4 a5 a6 : Nat) (x0 : Int32) : KV l yX9_plan wsX9_plan 2 43 0 0 D cs sz [.ref a0, .int 0, .int 1, .int 0, .int 1, .int x0] [(a0, .inr (9, [.int 0, .ref a2, .int 0, .int 0, .int 0, .int 0, .int 0, .int (-1), .ref a1, .ref a3, .ref a4, .ref a5, .int 1, .int 0, .int 0, .int 0, .int 0, .ref a6])), (a1, .inl (cs 0, 45783, .inl (upd (upd (upd (upd (layF (fun _ => 0) 1) 6 1) 15 x0) 16 1) 17 50)))] (fun u => [(a0, .inr (9, [.int 0, .ref a2, .int 0, .int 0, .int 0, .int 0, .int 0, .int (-1), .ref a1, .ref a3, .ref a4, .ref a5, .int 1, .int 0, .int 0, .int 0, .int 0, .ref a6])), (a1, .inl (cs 0, 45783, .inl (upd (upd (upd (upd (upd (upd (upd (upd (layF (fun _ => 0) 1) 6 1) 15 x0) 16 1) 17 50) 28 1) 29 0) 31 1) 30 x0)))]) := by
  refine KV.of cX9_plan 6 none (by decide) rfl (Nat.le_of_ble_eq_true rfl) ?_
  intro p e s m below meth c A ls hx hb hr hml hown hts hlocks hin hP hN hD hA hS hl
  have hown : s.vm.findClass RX9 = some m.cls := hown
  have hl : lv_has ls 6 [(0, .ref a0), (1, .int 0), (2, .int 1), (3, .int 0), (4, .int 1), (5, .int x0)] := hl
  refine lv_aload_n hx hb dX9_plan_0 rfl (lv_at hl 0 rfl) ?_
  refine lv_iload_n hx hb dX9_plan_1 rfl (lv_at hl 1 rfl) ?_
  refine lv_iconst (v := 5) hx hb dX9_plan_2 (by decide) ?_
  refine cv_i (As := [.int 0, .int 5]) (rest := []) (b := a0) (wr := []) ⟨hx, hb, hml, hown, hts⟩ (fun sz => k465_X9_of l D cs sz a0 a1 a2 a3 a4 a5 a6 (x0)) (cwV 2 hts gX9_plan_X9_of rfl rfl rfl hdX9_of_v ⟨Nat.le_of_ble_eq_true rfl, Nat.le_of_ble_eq_true rfl⟩) hN hP hD hS hA [0, 1] [] rfl rfl rfl rfl (by decide) (ci := 9) (q0 := 0) rfl rfl rfl rfl hl.1 (Nat.le_of_ble_eq_true rfl) dX9_plan_3 (Nat.le_of_ble_eq_true rfl) (Nat.le_of_ble_eq_true rfl) (fun u0 H locs hP hD hS => ?_)
  have hP : va_P D vwCl [(a0, .inr (9, [.int 0, .ref a2, .int 0, .int 0, .int 0, .int 0, .int 0, .int (-1), .ref a1, .ref a3, .ref a4, .ref a5, .int 1, .int 0, .int 0, .int 0, .int 0, .ref a6])), (a1, .inl (cs 0, 45783, .inl (upd (upd (upd (upd (layF (fun _ => 0) 1) 6 1) 15 x0) 16 1) 17 50)))] H := hP
  have hD : va_D A [(a0, .inr (9, [.int 0, .ref a2, .int 0, .int 0, .int 0, .int 0, .int 0, .int (-1), .ref a1, .ref a3, .ref a4, .ref a5, .int 1, .int 0, .int 0, .int 0, .int 0, .ref a6])), (a1, .inl (cs 0, 45783, .inl (upd (upd (upd (upd (layF (fun _ => 0) 1) 6 1) 15 x0) 16 1) 17 50)))] := hD
  refine W.widen (k := 0) (n := 0) (Nat.le_of_ble_eq_true rfl) (Nat.le_of_ble_eq_true rfl) ?_
  refine lv_if_eq (tgt := 21) hx hb dX9_plan_6 (by decide) (fun _ => ?_) (fun c9 => absurd (by decide) c9)
  refine lv_aload_n hx hb dX9_plan_21 rfl (lv_at hl 0 rfl) ?_
  refine lv_iload_n hx hb dX9_plan_22 rfl (lv_at hl 1 rfl) ?_
  refine lv_iconst (v := 5) hx hb dX9_plan_23 (by decide) ?_
  refine lv_iload_n hx hb dX9_plan_24 rfl (lv_at hl 2 rfl) ?_
  refine cv_v (As := [.int 0, .int 5, .int 1]) (rest := []) (b := a0) (wr := []) ⟨hx, hb, hml, hown, hts⟩ (fun sz => k466_X9_set l D cs sz a0 a1 a2 a3 a4 a5 a6 (x0)) (cwV 3 hts gX9_plan_X9_set rfl rfl rfl hdX9_set_v ⟨Nat.le_of_ble_eq_true rfl, Nat.le_of_ble_eq_true rfl⟩) hN hP hD hS hA [0, 1] [] rfl rfl rfl rfl (by decide) (ci := 9) (q0 := 0) rfl rfl rfl rfl hl.1 (Nat.le_of_ble_eq_true rfl) dX9_plan_25 (Nat.le_of_ble_eq_true rfl) (Nat.le_of_ble_eq_true rfl) (fun u1 H locs hP hD hS => ?_)
  have hP : va_P D vwCl [(a0, .inr (9, [.int 0, .ref a2, .int 0, .int 0, .int 0, .int 0, .int 0, .int (-1), .ref a1, .ref a3, .ref a4, .ref a5, .int 1, .int 0, .int 0, .int 0, .int 0, .ref a6])), (a1, .inl (cs 0, 45783, .inl (upd (upd (upd (upd (upd (layF (fun _ => 0) 1) 6 1) 15 x0) 16 1) 17 50) 28 1)))] H := hP
  have hD : va_D A [(a0, .inr (9, [.int 0, .ref a2, .int 0, .int 0, .int 0, .int 0, .int 0, .int (-1), .ref a1, .ref a3, .ref a4, .ref a5, .int 1, .int 0, .int 0, .int 0, .int 0, .ref a6])), (a1, .inl (cs 0, 45783, .inl (upd (upd (upd (upd (upd (layF (fun _ => 0) 1) 6 1) 15 x0) 16 1) 17 50) 28 1)))] := hD
  refine W.widen (k := 0) (n := 0) (Nat.le_of_ble_eq_true rfl) (Nat.le_of_ble_eq_true rfl) ?_
  refine lv_aload_n hx hb dX9_plan_28 rfl (lv_at hl 0 rfl) ?_
  refine lv_iload_n hx hb dX9_plan_29 rfl (lv_at hl 1 rfl) ?_
  refine lv_bipush (v := 6) hx hb dX9_plan_30 (by decide) ?_
  refine lv_iload_n hx hb dX9_plan_32 rfl (lv_at hl 3 rfl) ?_
  refine cv_v (As := [.int 0, .int 6, .int 0]) (rest := []) (b := a0) (wr := []) ⟨hx, hb, hml, hown, hts⟩ (fun sz => k467_X9_set l D cs sz a0 a1 a2 a3 a4 a5 a6 (x0)) (cwV 3 hts gX9_plan_X9_set rfl rfl rfl hdX9_set_v ⟨Nat.le_of_ble_eq_true rfl, Nat.le_of_ble_eq_true rfl⟩) hN hP hD hS hA [0, 1] [] rfl rfl rfl rfl (by decide) (ci := 9) (q0 := 0) rfl rfl rfl rfl hl.1 (Nat.le_of_ble_eq_true rfl) dX9_plan_33 (Nat.le_of_ble_eq_true rfl) (Nat.le_of_ble_eq_true rfl) (fun u2 H locs hP hD hS => ?_)
  have hP : va_P D vwCl [(a0, .inr (9, [.int 0, .ref a2, .int 0, .int 0, .int 0, .int 0, .int 0, .int (-1), .ref a1, .ref a3, .ref a4, .ref a5, .int 1, .int 0, .int 0, .int 0, .int 0, .ref a6])), (a1, .inl (cs 0, 45783, .inl (upd (upd (upd (upd (upd (upd (layF (fun _ => 0) 1) 6 1) 15 x0) 16 1) 17 50) 28 1) 29 0)))] H := hP
  have hD : va_D A [(a0, .inr (9, [.int 0, .ref a2, .int 0, .int 0, .int 0, .int 0, .int 0, .int (-1), .ref a1, .ref a3, .ref a4, .ref a5, .int 1, .int 0, .int 0, .int 0, .int 0, .ref a6])), (a1, .inl (cs 0, 45783, .inl (upd (upd (upd (upd (upd (upd (layF (fun _ => 0) 1) 6 1) 15 x0) 16 1) 17 50) 28 1) 29 0)))] := hD
  refine W.widen (k := 0) (n := 0) (Nat.le_of_ble_eq_true rfl) (Nat.le_of_ble_eq_true rfl) ?_
  refine lv_aload_n hx hb dX9_plan_36 rfl (lv_at hl 0 rfl) ?_
  refine lv_iload_n hx hb dX9_plan_37 rfl (lv_at hl 1 rfl) ?_
  refine lv_bipush (v := 8) hx hb dX9_plan_38 (by decide) ?_
  refine lv_iload hx hb dX9_plan_40 (lv_at hl 4 rfl) ?_
  refine cv_v (As := [.int 0, .int 8, .int 1]) (rest := []) (b := a0) (wr := []) ⟨hx, hb, hml, hown, hts⟩ (fun sz => k468_X9_set l D cs sz a0 a1 a2 a3 a4 a5 a6 (x0)) (cwV 3 hts gX9_plan_X9_set rfl rfl rfl hdX9_set_v ⟨Nat.le_of_ble_eq_true rfl, Nat.le_of_ble_eq_true rfl⟩) hN hP hD hS hA [0, 1] [] rfl rfl rfl rfl (by decide) (ci := 9) (q0 := 0) rfl rfl rfl rfl hl.1 (Nat.le_of_ble_eq_true rfl) dX9_plan_42 (Nat.le_of_ble_eq_true rfl) (Nat.le_of_ble_eq_true rfl) (fun u3 H locs hP hD hS => ?_)
  have hP : va_P D vwCl [(a0, .inr (9, [.int 0, .ref a2, .int 0, .int 0, .int 0, .int 0, .int 0, .int (-1), .ref a1, .ref a3, .ref a4, .ref a5, .int 1, .int 0, .int 0, .int 0, .int 0, .ref a6])), (a1, .inl (cs 0, 45783, .inl (upd (upd (upd (upd (upd (upd (upd (layF (fun _ => 0) 1) 6 1) 15 x0) 16 1) 17 50) 28 1) 29 0) 31 1)))] H := hP
  have hD : va_D A [(a0, .inr (9, [.int 0, .ref a2, .int 0, .int 0, .int 0, .int 0, .int 0, .int (-1), .ref a1, .ref a3, .ref a4, .ref a5, .int 1, .int 0, .int 0, .int 0, .int 0, .ref a6])), (a1, .inl (cs 0, 45783, .inl (upd (upd (upd (upd (upd (upd (upd (layF (fun _ => 0) 1) 6 1) 15 x0) 16 1) 17 50) 28 1) 29 0) 31 1)))] := hD
  refine W.widen (k := 0) (n := 0) (Nat.le_of_ble_eq_true rfl) (Nat.le_of_ble_eq_true rfl) ?_
  refine lv_aload_n hx hb dX9_plan_45 rfl (lv_at hl 0 rfl) ?_
  refine lv_iload_n hx hb dX9_plan_46 rfl (lv_at hl 1 rfl) ?_
  refine lv_bipush (v := 7) hx hb dX9_plan_47 (by decide) ?_
  refine lv_iload hx hb dX9_plan_49 (lv_at hl 5 rfl) ?_
  refine cv_v (As := [.int 0, .int 7, .int x0]) (rest := []) (b := a0) (wr := []) ⟨hx, hb, hml, hown, hts⟩ (fun sz => k469_X9_set l D cs sz a0 a1 a2 a3 a4 a5 a6 (x0)) (cwV 3 hts gX9_plan_X9_set rfl rfl rfl hdX9_set_v ⟨Nat.le_of_ble_eq_true rfl, Nat.le_of_ble_eq_true rfl⟩) hN hP hD hS hA [0, 1] [] rfl rfl rfl rfl (by decide) (ci := 9) (q0 := 0) rfl rfl rfl rfl hl.1 (Nat.le_of_ble_eq_true rfl) dX9_plan_51 (Nat.le_of_ble_eq_true rfl) (Nat.le_of_ble_eq_true rfl) (fun u4 H locs hP hD hS => ?_)
  have hP : va_P D vwCl [(a0, .inr (9, [.int 0, .ref a2, .int 0, .int 0, .int 0, .int 0, .int 0, .int (-1), .ref a1, .ref a3, .ref a4, .ref a5, .int 1, .int 0, .int 0, .int 0, .int 0, .ref a6])), (a1, .inl (cs 0, 45783, .inl (upd (upd (upd (upd (upd (upd (upd (upd (layF (fun _ => 0) 1) 6 1) 15 x0) 16 1) 17 50) 28 1) 29 0) 31 1) 30 x0)))] H := hP
  have hD : va_D A [(a0, .inr (9, [.int 0, .ref a2, .int 0, .int 0, .int 0, .int 0, .int 0, .int (-1), .ref a1, .ref a3, .ref a4, .ref a5, .int 1, .int 0, .int 0, .int 0, .int 0, .ref a6])), (a1, .inl (cs 0, 45783, .inl (upd (upd (upd (upd (upd (upd (upd (upd (layF (fun _ => 0) 1) 6 1) 15 x0) 16 1) 17 50) 28 1) 29 0) 31 1) 30 x0)))] := hD
  refine W.widen (k := 0) (n := 0) (Nat.le_of_ble_eq_true rfl) (Nat.le_of_ble_eq_true rfl) ?_
  exact en_v (fun k => ([] : List Nat).getD k 0) hx hb hr hlocks hP hD hS (Nat.le_of_ble_eq_true rfl) (Nat.le_of_ble_eq_true rfl) dX9_plan_54
set_option maxHeartbeats 4000000 in
set_option maxRecDepth 100000 in
theorem k471_X9_sendToOthers (l : Launch) (D : va_G) (cs : Nat → ClassId) (sz : Nat) (a0 a1 a2 a3 a4 a5 a6 : Nat) (x0 : Int32) : KV l yX9_sendToOthers wsX9_sendToOthers 0 0 0 0 D cs sz [.ref a0, .int 2, .int 0, .int 0, .int 1, .int x0] [(a0, .inr (9, [.int 0, .ref a2, .int 0, .int 0, .int 0, .int 0, .int 0, .int (-1), .ref a1, .ref a3, .ref a4, .ref a5, .int 1, .int 0, .int 0, .int 0, .int 0, .ref a6])), (a1, .inl (cs 0, 45783, .inl (upd (upd (upd (upd (upd (upd (upd (upd (layF (fun _ => 0) 1) 6 1) 15 x0) 16 1) 17 50) 28 1) 29 0) 31 1) 30 x0)))] (fun u => [(a0, .inr (9, [.int 0, .ref a2, .int 0, .int 0, .int 0, .int 0, .int 0, .int (-1), .ref a1, .ref a3, .ref a4, .ref a5, .int 1, .int 0, .int 0, .int 0, .int 0, .ref a6])), (a1, .inl (cs 0, 45783, .inl (upd (upd (upd (upd (upd (upd (upd (upd (layF (fun _ => 0) 1) 6 1) 15 x0) 16 1) 17 50) 28 1) 29 0) 31 1) 30 x0)))]) := by
  refine KV.of cX9_sendToOthers 7 none (by decide) rfl (Nat.le_of_ble_eq_true rfl) ?_
  intro p e s m below meth c A ls hx hb hr hml hown hts hlocks hin hP hN hD hA hS hl
  have hown : s.vm.findClass RX9 = some m.cls := hown
  have hl : lv_has ls 7 [(0, .ref a0), (1, .int 2), (2, .int 0), (3, .int 0), (4, .int 1), (5, .int x0)] := hl
  refine lv_iconst (v := 0) hx hb dX9_sendToOthers_0 (by decide) ?_
  refine lv_istore (lv' := [(6, .int 0), (0, .ref a0), (1, .int 2), (2, .int 0), (3, .int 0), (4, .int 1), (5, .int x0)]) hx hb dX9_sendToOthers_1 hl (by decide) rfl (fun ls hl => ?_)
  refine lv_iload hx hb dX9_sendToOthers_3 (lv_at hl 0 rfl) ?_
  refine lv_aload_n hx hb dX9_sendToOthers_5 rfl (lv_at hl 1 rfl) ?_
  refine va_get (D := D) (ci := 9) (v := .ref a1) (C := RX9) (T := TX9) (N := 18) hx hb hts iX9_sendToOthers_9 hown hN.1 hP 0 rfl rfl 8 (by decide) (hts _ mX9_sendToOthers_1) (fun _ h9 => h9) rfl dX9_sendToOthers_6 ?_
  refine lv_iconst (v := 0) hx hb dX9_sendToOthers_9 (by decide) ?_
  refine ld_i (v := 1) hx hb hN hP 1 rfl (vin (by decide +kernel)) (by first | rfl | decide +kernel) dX9_sendToOthers_10 ?_
  refine lv_icmp_ge (tgt := 40) hx hb dX9_sendToOthers_11 (by decide) (fun c9 => absurd c9 (by decide)) (fun _ => ?_)
  refine lv_iload hx hb dX9_sendToOthers_14 (lv_at hl 0 rfl) ?_
  refine lv_iload_n hx hb dX9_sendToOthers_16 rfl (lv_at hl 3 rfl) ?_
  refine lv_icmp_eq (tgt := 34) hx hb dX9_sendToOthers_17 (by decide) (fun _ => ?_) (fun c9 => absurd (by decide) c9)
  refine lv_iinc (v := 1) (lv' := [(6, .int 1), (0, .ref a0), (1, .int 2), (2, .int 0), (3, .int 0), (4, .int 1), (5, .int x0)]) hx hb dX9_sendToOthers_34 hl (k := 0) rfl (by decide) (by decide) rfl (fun ls hl => ?_)
  refine lv_goto (tgt := 3) hx hb dX9_sendToOthers_37 (by decide) ?_
  refine lv_iload hx hb dX9_sendToOthers_3 (lv_at hl 0 rfl) ?_
  refine lv_aload_n hx hb dX9_sendToOthers_5 rfl (lv_at hl 1 rfl) ?_
  refine va_get (D := D) (ci := 9) (v := .ref a1) (C := RX9) (T := TX9) (N := 18) hx hb hts iX9_sendToOthers_9 hown hN.1 hP 0 rfl rfl 8 (by decide) (hts _ mX9_sendToOthers_1) (fun _ h9 => h9) rfl dX9_sendToOthers_6 ?_
  refine lv_iconst (v := 0) hx hb dX9_sendToOthers_9 (by decide) ?_
  refine ld_i (v := 1) hx hb hN hP 1 rfl (vin (by decide +kernel)) (by first | rfl | decide +kernel) dX9_sendToOthers_10 ?_
  refine lv_icmp_ge (tgt := 40) hx hb dX9_sendToOthers_11 (by decide) (fun _ => ?_) (fun c9 => absurd (by decide) c9)
  exact en_v (fun k => ([] : List Nat).getD k 0) hx hb hr hlocks hP hD hS (Nat.le_of_ble_eq_true rfl) (Nat.le_of_ble_eq_true rfl) dX9_sendToOthers_40
set_option maxHeartbeats 4000000 in
set_option maxRecDepth 100000 in
theorem k472_X9_of (l : Launch) (D : va_G) (cs : Nat → ClassId) (sz : Nat) (a0 a1 a2 a3 a4 a5 a6 : Nat) (x0 : Int32) : KI l yX9_of wsX9_of 1 20 0 0 D cs sz [.ref a0, .int 0, .int 5] [(a0, .inr (9, [.int 0, .ref a2, .int 0, .int 0, .int 0, .int 0, .int 0, .int (-1), .ref a1, .ref a3, .ref a4, .ref a5, .int 1, .int 0, .int 0, .int 0, .int 0, .ref a6])), (a1, .inl (cs 0, 45783, .inl (upd (upd (upd (upd (upd (upd (upd (upd (upd (upd (upd (layF (fun _ => 0) 1) 6 1) 15 x0) 16 1) 17 50) 28 1) 29 0) 31 1) 30 x0) 19 1) 20 1) 7 1)))] (fun u => [(a0, .inr (9, [.int 0, .ref a2, .int 0, .int 0, .int 0, .int 0, .int 0, .int (-1), .ref a1, .ref a3, .ref a4, .ref a5, .int 1, .int 0, .int 0, .int 0, .int 0, .ref a6])), (a1, .inl (cs 0, 45783, .inl (upd (upd (upd (upd (upd (upd (upd (upd (upd (upd (upd (layF (fun _ => 0) 1) 6 1) 15 x0) 16 1) 17 50) 28 1) 29 0) 31 1) 30 x0) 19 1) 20 1) 7 1)))]) (1) := by
  refine KI.of cX9_of 3 (some .int) (by decide) rfl (Nat.le_of_ble_eq_true rfl) ?_
  intro p e s m below meth c A ls hx hb hr hml hown hts hlocks hin hP hN hD hA hS hl
  have hown : s.vm.findClass RX9 = some m.cls := hown
  have hl : lv_has ls 3 [(0, .ref a0), (1, .int 0), (2, .int 5)] := hl
  refine lv_aload_n hx hb dX9_of_0 rfl (lv_at hl 0 rfl) ?_
  refine va_get (D := D) (ci := 9) (v := .ref a1) (C := RX9) (T := TX9) (N := 18) hx hb hts iX9_of_9 hown hN.1 hP 0 rfl rfl 8 (by decide) (hts _ mX9_of_1) (fun _ h9 => h9) rfl dX9_of_1 ?_
  refine lv_iload_n hx hb dX9_of_4 rfl (lv_at hl 1 rfl) ?_
  refine cs_i (As := [.int 0]) (rest := [.ref a1]) (wr := [(a0, .inr (9, [.int 0, .ref a2, .int 0, .int 0, .int 0, .int 0, .int 0, .int (-1), .ref a1, .ref a3, .ref a4, .ref a5, .int 1, .int 0, .int 0, .int 0, .int 0, .ref a6])), (a1, .inl (cs 0, 45783, .inl (upd (upd (upd (upd (upd (upd (upd (upd (upd (upd (upd (layF (fun _ => 0) 1) 6 1) 15 x0) 16 1) 17 50) 28 1) 29 0) 31 1) 30 x0) 19 1) 20 1) 7 1)))]) ⟨hx, hb, hml, hown, hts⟩ (fun sz => k16_X9_playerAt l D cs sz ) (va_cwS 1 hts gX9_of_X9_playerAt rfl rfl rfl hdX9_playerAt_o ⟨Nat.le_of_ble_eq_true rfl, Nat.le_of_ble_eq_true rfl⟩) hN hP hD hS hA [] [0, 1] rfl rfl rfl rfl (by decide) rfl rfl hl.1 (Nat.le_of_ble_eq_true rfl) dX9_of_5 (Nat.le_of_ble_eq_true rfl) (Nat.le_of_ble_eq_true rfl) (fun u0 H locs hP hD hS => ?_)
  have hP : va_P D vwCl [(a0, .inr (9, [.int 0, .ref a2, .int 0, .int 0, .int 0, .int 0, .int 0, .int (-1), .ref a1, .ref a3, .ref a4, .ref a5, .int 1, .int 0, .int 0, .int 0, .int 0, .ref a6])), (a1, .inl (cs 0, 45783, .inl (upd (upd (upd (upd (upd (upd (upd (upd (upd (upd (upd (layF (fun _ => 0) 1) 6 1) 15 x0) 16 1) 17 50) 28 1) 29 0) 31 1) 30 x0) 19 1) 20 1) 7 1)))] H := hP
  have hD : va_D A [(a0, .inr (9, [.int 0, .ref a2, .int 0, .int 0, .int 0, .int 0, .int 0, .int (-1), .ref a1, .ref a3, .ref a4, .ref a5, .int 1, .int 0, .int 0, .int 0, .int 0, .ref a6])), (a1, .inl (cs 0, 45783, .inl (upd (upd (upd (upd (upd (upd (upd (upd (upd (upd (upd (layF (fun _ => 0) 1) 6 1) 15 x0) 16 1) 17 50) 28 1) 29 0) 31 1) 30 x0) 19 1) 20 1) 7 1)))] := hD
  refine W.widen (k := 0) (n := 0) (Nat.le_of_ble_eq_true rfl) (Nat.le_of_ble_eq_true rfl) ?_
  refine lv_iload_n hx hb dX9_of_8 rfl (lv_at hl 2 rfl) ?_
  refine lv_iadd hx hb dX9_of_9 ?_
  refine tp_i (28) (by decide) ?_
  refine ld_i (v := 1) hx hb hN hP 1 rfl (vin (by decide +kernel)) (by first | rfl | decide +kernel) dX9_of_10 ?_
  exact en_i (fun k => ([] : List Nat).getD k 0) hx hb hr hlocks rfl rfl hP hD hS (Nat.le_of_ble_eq_true rfl) (Nat.le_of_ble_eq_true rfl) dX9_of_11
set_option maxHeartbeats 4000000 in
set_option maxRecDepth 100000 in
theorem k473_X9_of (l : Launch) (D : va_G) (cs : Nat → ClassId) (sz : Nat) (a0 a1 a2 a3 a4 a5 a6 : Nat) (x0 : Int32) : KI l yX9_of wsX9_of 1 20 0 0 D cs sz [.ref a0, .int 0, .int 6] [(a0, .inr (9, [.int 0, .ref a2, .int 0, .int 0, .int 0, .int 0, .int 0, .int (-1), .ref a1, .ref a3, .ref a4, .ref a5, .int 1, .int 0, .int 0, .int 0, .int 0, .ref a6])), (a1, .inl (cs 0, 45783, .inl (upd (upd (upd (upd (upd (upd (upd (upd (upd (upd (upd (layF (fun _ => 0) 1) 6 1) 15 x0) 16 1) 17 50) 28 1) 29 0) 31 1) 30 x0) 19 1) 20 1) 7 1)))] (fun u => [(a0, .inr (9, [.int 0, .ref a2, .int 0, .int 0, .int 0, .int 0, .int 0, .int (-1), .ref a1, .ref a3, .ref a4, .ref a5, .int 1, .int 0, .int 0, .int 0, .int 0, .ref a6])), (a1, .inl (cs 0, 45783, .inl (upd (upd (upd (upd (upd (upd (upd (upd (upd (upd (upd (layF (fun _ => 0) 1) 6 1) 15 x0) 16 1) 17 50) 28 1) 29 0) 31 1) 30 x0) 19 1) 20 1) 7 1)))]) (0) := by
  refine KI.of cX9_of 3 (some .int) (by decide) rfl (Nat.le_of_ble_eq_true rfl) ?_
  intro p e s m below meth c A ls hx hb hr hml hown hts hlocks hin hP hN hD hA hS hl
  have hown : s.vm.findClass RX9 = some m.cls := hown
  have hl : lv_has ls 3 [(0, .ref a0), (1, .int 0), (2, .int 6)] := hl
  refine lv_aload_n hx hb dX9_of_0 rfl (lv_at hl 0 rfl) ?_
  refine va_get (D := D) (ci := 9) (v := .ref a1) (C := RX9) (T := TX9) (N := 18) hx hb hts iX9_of_9 hown hN.1 hP 0 rfl rfl 8 (by decide) (hts _ mX9_of_1) (fun _ h9 => h9) rfl dX9_of_1 ?_
  refine lv_iload_n hx hb dX9_of_4 rfl (lv_at hl 1 rfl) ?_
  refine cs_i (As := [.int 0]) (rest := [.ref a1]) (wr := [(a0, .inr (9, [.int 0, .ref a2, .int 0, .int 0, .int 0, .int 0, .int 0, .int (-1), .ref a1, .ref a3, .ref a4, .ref a5, .int 1, .int 0, .int 0, .int 0, .int 0, .ref a6])), (a1, .inl (cs 0, 45783, .inl (upd (upd (upd (upd (upd (upd (upd (upd (upd (upd (upd (layF (fun _ => 0) 1) 6 1) 15 x0) 16 1) 17 50) 28 1) 29 0) 31 1) 30 x0) 19 1) 20 1) 7 1)))]) ⟨hx, hb, hml, hown, hts⟩ (fun sz => k16_X9_playerAt l D cs sz ) (va_cwS 1 hts gX9_of_X9_playerAt rfl rfl rfl hdX9_playerAt_o ⟨Nat.le_of_ble_eq_true rfl, Nat.le_of_ble_eq_true rfl⟩) hN hP hD hS hA [] [0, 1] rfl rfl rfl rfl (by decide) rfl rfl hl.1 (Nat.le_of_ble_eq_true rfl) dX9_of_5 (Nat.le_of_ble_eq_true rfl) (Nat.le_of_ble_eq_true rfl) (fun u0 H locs hP hD hS => ?_)
  have hP : va_P D vwCl [(a0, .inr (9, [.int 0, .ref a2, .int 0, .int 0, .int 0, .int 0, .int 0, .int (-1), .ref a1, .ref a3, .ref a4, .ref a5, .int 1, .int 0, .int 0, .int 0, .int 0, .ref a6])), (a1, .inl (cs 0, 45783, .inl (upd (upd (upd (upd (upd (upd (upd (upd (upd (upd (upd (layF (fun _ => 0) 1) 6 1) 15 x0) 16 1) 17 50) 28 1) 29 0) 31 1) 30 x0) 19 1) 20 1) 7 1)))] H := hP
  have hD : va_D A [(a0, .inr (9, [.int 0, .ref a2, .int 0, .int 0, .int 0, .int 0, .int 0, .int (-1), .ref a1, .ref a3, .ref a4, .ref a5, .int 1, .int 0, .int 0, .int 0, .int 0, .ref a6])), (a1, .inl (cs 0, 45783, .inl (upd (upd (upd (upd (upd (upd (upd (upd (upd (upd (upd (layF (fun _ => 0) 1) 6 1) 15 x0) 16 1) 17 50) 28 1) 29 0) 31 1) 30 x0) 19 1) 20 1) 7 1)))] := hD
  refine W.widen (k := 0) (n := 0) (Nat.le_of_ble_eq_true rfl) (Nat.le_of_ble_eq_true rfl) ?_
  refine lv_iload_n hx hb dX9_of_8 rfl (lv_at hl 2 rfl) ?_
  refine lv_iadd hx hb dX9_of_9 ?_
  refine tp_i (29) (by decide) ?_
  refine ld_i (v := 0) hx hb hN hP 1 rfl (vin (by decide +kernel)) (by first | rfl | decide +kernel) dX9_of_10 ?_
  exact en_i (fun k => ([] : List Nat).getD k 0) hx hb hr hlocks rfl rfl hP hD hS (Nat.le_of_ble_eq_true rfl) (Nat.le_of_ble_eq_true rfl) dX9_of_11
set_option maxHeartbeats 4000000 in
set_option maxRecDepth 100000 in
theorem k474_X9_set (l : Launch) (D : va_G) (cs : Nat → ClassId) (sz : Nat) (a0 a1 a2 a3 a4 a5 a6 : Nat) (x0 : Int32) : KV l yX9_set wsX9_set 1 20 0 0 D cs sz [.ref a0, .int 0, .int 5, .int 2] [(a0, .inr (9, [.int 0, .ref a2, .int 0, .int 0, .int 0, .int 0, .int 0, .int (-1), .ref a1, .ref a3, .ref a4, .ref a5, .int 1, .int 0, .int 0, .int 0, .int 0, .ref a6])), (a1, .inl (cs 0, 45783, .inl (upd (upd (upd (upd (upd (upd (upd (upd (upd (upd (upd (layF (fun _ => 0) 1) 6 1) 15 x0) 16 1) 17 50) 28 1) 29 0) 31 1) 30 x0) 19 1) 20 1) 7 1)))] (fun u => [(a0, .inr (9, [.int 0, .ref a2, .int 0, .int 0, .int 0, .int 0, .int 0, .int (-1), .ref a1, .ref a3, .ref a4, .ref a5, .int 1, .int 0, .int 0, .int 0, .int 0, .ref a6])), (a1, .inl (cs 0, 45783, .inl (upd (upd (upd (upd (upd (upd (upd (upd (upd (upd (upd (upd (layF (fun _ => 0) 1) 6 1) 15 x0) 16 1) 17 50) 28 1) 29 0) 31 1) 30 x0) 19 1) 20 1) 7 1) 28 2)))]) := by
  refine KV.of cX9_set 4 none (by decide) rfl (Nat.le_of_ble_eq_true rfl) ?_
  intro p e s m below meth c A ls hx hb hr hml hown hts hlocks hin hP hN hD hA hS hl
  have hown : s.vm.findClass RX9 = some m.cls := hown
  have hl : lv_has ls 4 [(0, .ref a0), (1, .int 0), (2, .int 5), (3, .int 2)] := hl
  refine lv_aload_n hx hb dX9_set_0 rfl (lv_at hl 0 rfl) ?_
  refine va_get (D := D) (ci := 9) (v := .ref a1) (C := RX9) (T := TX9) (N := 18) hx hb hts iX9_set_9 hown hN.1 hP 0 rfl rfl 8 (by decide) (hts _ mX9_set_1) (fun _ h9 => h9) rfl dX9_set_1 ?_
  refine lv_iload_n hx hb dX9_set_4 rfl (lv_at hl 1 rfl) ?_
  refine cs_i (As := [.int 0]) (rest := [.ref a1]) (wr := [(a0, .inr (9, [.int 0, .ref a2, .int 0, .int 0, .int 0, .int 0, .int 0, .int (-1), .ref a1, .ref a3, .ref a4, .ref a5, .int 1, .int 0, .int 0, .int 0, .int 0, .ref a6])), (a1, .inl (cs 0, 45783, .inl (upd (upd (upd (upd (upd (upd (upd (upd (upd (upd (upd (layF (fun _ => 0) 1) 6 1) 15 x0) 16 1) 17 50) 28 1) 29 0) 31 1) 30 x0) 19 1) 20 1) 7 1)))]) ⟨hx, hb, hml, hown, hts⟩ (fun sz => k16_X9_playerAt l D cs sz ) (va_cwS 1 hts gX9_set_X9_playerAt rfl rfl rfl hdX9_playerAt_o ⟨Nat.le_of_ble_eq_true rfl, Nat.le_of_ble_eq_true rfl⟩) hN hP hD hS hA [] [0, 1] rfl rfl rfl rfl (by decide) rfl rfl hl.1 (Nat.le_of_ble_eq_true rfl) dX9_set_5 (Nat.le_of_ble_eq_true rfl) (Nat.le_of_ble_eq_true rfl) (fun u0 H locs hP hD hS => ?_)
  have hP : va_P D vwCl [(a0, .inr (9, [.int 0, .ref a2, .int 0, .int 0, .int 0, .int 0, .int 0, .int (-1), .ref a1, .ref a3, .ref a4, .ref a5, .int 1, .int 0, .int 0, .int 0, .int 0, .ref a6])), (a1, .inl (cs 0, 45783, .inl (upd (upd (upd (upd (upd (upd (upd (upd (upd (upd (upd (layF (fun _ => 0) 1) 6 1) 15 x0) 16 1) 17 50) 28 1) 29 0) 31 1) 30 x0) 19 1) 20 1) 7 1)))] H := hP
  have hD : va_D A [(a0, .inr (9, [.int 0, .ref a2, .int 0, .int 0, .int 0, .int 0, .int 0, .int (-1), .ref a1, .ref a3, .ref a4, .ref a5, .int 1, .int 0, .int 0, .int 0, .int 0, .ref a6])), (a1, .inl (cs 0, 45783, .inl (upd (upd (upd (upd (upd (upd (upd (upd (upd (upd (upd (layF (fun _ => 0) 1) 6 1) 15 x0) 16 1) 17 50) 28 1) 29 0) 31 1) 30 x0) 19 1) 20 1) 7 1)))] := hD
  refine W.widen (k := 0) (n := 0) (Nat.le_of_ble_eq_true rfl) (Nat.le_of_ble_eq_true rfl) ?_
  refine lv_iload_n hx hb dX9_set_8 rfl (lv_at hl 2 rfl) ?_
  refine lv_iadd hx hb dX9_set_9 ?_
  refine tp_i (28) (by decide) ?_
  refine lv_iload_n hx hb dX9_set_10 rfl (lv_at hl 3 rfl) ?_
  refine st_i (g := (upd (upd (upd (upd (upd (upd (upd (upd (upd (upd (upd (upd (layF (fun _ => 0) 1) 6 1) 15 x0) 16 1) 17 50) 28 1) 29 0) 31 1) 30 x0) 19 1) 20 1) 7 1) 28 2)) hx hb hN hP hD hS 1 rfl (vin (by decide +kernel)) rfl dX9_set_11 (fun H locs hP hD hS => ?_)
  have hP : va_P D vwCl [(a0, .inr (9, [.int 0, .ref a2, .int 0, .int 0, .int 0, .int 0, .int 0, .int (-1), .ref a1, .ref a3, .ref a4, .ref a5, .int 1, .int 0, .int 0, .int 0, .int 0, .ref a6])), (a1, .inl (cs 0, 45783, .inl (upd (upd (upd (upd (upd (upd (upd (upd (upd (upd (upd (upd (layF (fun _ => 0) 1) 6 1) 15 x0) 16 1) 17 50) 28 1) 29 0) 31 1) 30 x0) 19 1) 20 1) 7 1) 28 2)))] H := hP
  have hD : va_D A [(a0, .inr (9, [.int 0, .ref a2, .int 0, .int 0, .int 0, .int 0, .int 0, .int (-1), .ref a1, .ref a3, .ref a4, .ref a5, .int 1, .int 0, .int 0, .int 0, .int 0, .ref a6])), (a1, .inl (cs 0, 45783, .inl (upd (upd (upd (upd (upd (upd (upd (upd (upd (upd (upd (upd (layF (fun _ => 0) 1) 6 1) 15 x0) 16 1) 17 50) 28 1) 29 0) 31 1) 30 x0) 19 1) 20 1) 7 1) 28 2)))] := hD
  exact en_v (fun k => ([] : List Nat).getD k 0) hx hb hr hlocks hP hD hS (Nat.le_of_ble_eq_true rfl) (Nat.le_of_ble_eq_true rfl) dX9_set_12
set_option maxHeartbeats 4000000 in
set_option maxRecDepth 100000 in
theorem k475_X9_set (l : Launch) (D : va_G) (cs : Nat → ClassId) (sz : Nat) (a0 a1 a2 a3 a4 a5 a6 : Nat) (x0 : Int32) : KV l yX9_set wsX9_set 1 20 0 0 D cs sz [.ref a0, .int 0, .int 6, .int 0] [(a0, .inr (9, [.int 0, .ref a2, .int 0, .int 0, .int 0, .int 0, .int 0, .int (-1), .ref a1, .ref a3, .ref a4, .ref a5, .int 1, .int 0, .int 0, .int 0, .int 0, .ref a6])), (a1, .inl (cs 0, 45783, .inl (upd (upd (upd (upd (upd (upd (upd (upd (upd (upd (upd (upd (layF (fun _ => 0) 1) 6 1) 15 x0) 16 1) 17 50) 28 1) 29 0) 31 1) 30 x0) 19 1) 20 1) 7 1) 28 2)))] (fun u => [(a0, .inr (9, [.int 0, .ref a2, .int 0, .int 0, .int 0, .int 0, .int 0, .int (-1), .ref a1, .ref a3, .ref a4, .ref a5, .int 1, .int 0, .int 0, .int 0, .int 0, .ref a6])), (a1, .inl (cs 0, 45783, .inl (upd (upd (upd (upd (upd (upd (upd (upd (upd (upd (upd (upd (layF (fun _ => 0) 1) 6 1) 15 x0) 16 1) 17 50) 28 1) 29 0) 31 1) 30 x0) 19 1) 20 1) 7 1) 28 2)))]) := by
  refine KV.of cX9_set 4 none (by decide) rfl (Nat.le_of_ble_eq_true rfl) ?_
  intro p e s m below meth c A ls hx hb hr hml hown hts hlocks hin hP hN hD hA hS hl
  have hown : s.vm.findClass RX9 = some m.cls := hown
  have hl : lv_has ls 4 [(0, .ref a0), (1, .int 0), (2, .int 6), (3, .int 0)] := hl
  refine lv_aload_n hx hb dX9_set_0 rfl (lv_at hl 0 rfl) ?_
  refine va_get (D := D) (ci := 9) (v := .ref a1) (C := RX9) (T := TX9) (N := 18) hx hb hts iX9_set_9 hown hN.1 hP 0 rfl rfl 8 (by decide) (hts _ mX9_set_1) (fun _ h9 => h9) rfl dX9_set_1 ?_
  refine lv_iload_n hx hb dX9_set_4 rfl (lv_at hl 1 rfl) ?_
  refine cs_i (As := [.int 0]) (rest := [.ref a1]) (wr := [(a0, .inr (9, [.int 0, .ref a2, .int 0, .int 0, .int 0, .int 0, .int 0, .int (-1), .ref a1, .ref a3, .ref a4, .ref a5, .int 1, .int 0, .int 0, .int 0, .int 0, .ref a6])), (a1, .inl (cs 0, 45783, .inl (upd (upd (upd (upd (upd (upd (upd (upd (upd (upd (upd (upd (layF (fun _ => 0) 1) 6 1) 15 x0) 16 1) 17 50) 28 1) 29 0) 31 1) 30 x0) 19 1) 20 1) 7 1) 28 2)))]) ⟨hx, hb, hml, hown, hts⟩ (fun sz => k16_X9_playerAt l D cs sz ) (va_cwS 1 hts gX9_set_X9_playerAt rfl rfl rfl hdX9_playerAt_o ⟨Nat.le_of_ble_eq_true rfl, Nat.le_of_ble_eq_true rfl⟩) hN hP hD hS hA [] [0, 1] rfl rfl rfl rfl (by decide) rfl rfl hl.1 (Nat.le_of_ble_eq_true rfl) dX9_set_5 (Nat.le_of_ble_eq_true rfl) (Nat.le_of_ble_eq_true rfl) (fun u0 H locs hP hD hS => ?_)
  have hP : va_P D vwCl [(a0, .inr (9, [.int 0, .ref a2, .int 0, .int 0, .int 0, .int 0, .int 0, .int (-1), .ref a1, .ref a3, .ref a4, .ref a5, .int 1, .int 0, .int 0, .int 0, .int 0, .ref a6])), (a1, .inl (cs 0, 45783, .inl (upd (upd (upd (upd (upd (upd (upd (upd (upd (upd (upd (upd (layF (fun _ => 0) 1) 6 1) 15 x0) 16 1) 17 50) 28 1) 29 0) 31 1) 30 x0) 19 1) 20 1) 7 1) 28 2)))] H := hP
  have hD : va_D A [(a0, .inr (9, [.int 0, .ref a2, .int 0, .int 0, .int 0, .int 0, .int 0, .int (-1), .ref a1, .ref a3, .ref a4, .ref a5, .int 1, .int 0, .int 0, .int 0, .int 0, .ref a6])), (a1, .inl (cs 0, 45783, .inl (upd (upd (upd (upd (upd (upd (upd (upd (upd (upd (upd (upd (layF (fun _ => 0) 1) 6 1) 15 x0) 16 1) 17 50) 28 1) 29 0) 31 1) 30 x0) 19 1) 20 1) 7 1) 28 2)))] := hD
  refine W.widen (k := 0) (n := 0) (Nat.le_of_ble_eq_true rfl) (Nat.le_of_ble_eq_true rfl) ?_
  refine lv_iload_n hx hb dX9_set_8 rfl (lv_at hl 2 rfl) ?_
  refine lv_iadd hx hb dX9_set_9 ?_
  refine tp_i (29) (by decide) ?_
  refine lv_iload_n hx hb dX9_set_10 rfl (lv_at hl 3 rfl) ?_
  refine st_i (g := (upd (upd (upd (upd (upd (upd (upd (upd (upd (upd (upd (upd (layF (fun _ => 0) 1) 6 1) 15 x0) 16 1) 17 50) 28 1) 29 0) 31 1) 30 x0) 19 1) 20 1) 7 1) 28 2)) hx hb hN hP hD hS 1 rfl (vin (by decide +kernel)) (upd_id (by first | rfl | decide +kernel)) dX9_set_11 (fun H locs hP hD hS => ?_)
  have hP : va_P D vwCl [(a0, .inr (9, [.int 0, .ref a2, .int 0, .int 0, .int 0, .int 0, .int 0, .int (-1), .ref a1, .ref a3, .ref a4, .ref a5, .int 1, .int 0, .int 0, .int 0, .int 0, .ref a6])), (a1, .inl (cs 0, 45783, .inl (upd (upd (upd (upd (upd (upd (upd (upd (upd (upd (upd (upd (layF (fun _ => 0) 1) 6 1) 15 x0) 16 1) 17 50) 28 1) 29 0) 31 1) 30 x0) 19 1) 20 1) 7 1) 28 2)))] H := hP
  have hD : va_D A [(a0, .inr (9, [.int 0, .ref a2, .int 0, .int 0, .int 0, .int 0, .int 0, .int (-1), .ref a1, .ref a3, .ref a4, .ref a5, .int 1, .int 0, .int 0, .int 0, .int 0, .ref a6])), (a1, .inl (cs 0, 45783, .inl (upd (upd (upd (upd (upd (upd (upd (upd (upd (upd (upd (upd (layF (fun _ => 0) 1) 6 1) 15 x0) 16 1) 17 50) 28 1) 29 0) 31 1) 30 x0) 19 1) 20 1) 7 1) 28 2)))] := hD
  exact en_v (fun k => ([] : List Nat).getD k 0) hx hb hr hlocks hP hD hS (Nat.le_of_ble_eq_true rfl) (Nat.le_of_ble_eq_true rfl) dX9_set_12
set_option maxHeartbeats 4000000 in
set_option maxRecDepth 100000 in
theorem k476_X9_set (l : Launch) (D : va_G) (cs : Nat → ClassId) (sz : Nat) (a0 a1 a2 a3 a4 a5 a6 : Nat) (x0 : Int32) : KV l yX9_set wsX9_set 1 20 0 0 D cs sz [.ref a0, .int 0, .int 8, .int 1] [(a0, .inr (9, [.int 0, .ref a2, .int 0, .int 0, .int 0, .int 0, .int 0, .int (-1), .ref a1, .ref a3, .ref a4, .ref a5, .int 1, .int 0, .int 0, .int 0, .int 0, .ref a6])), (a1, .inl (cs 0, 45783, .inl (upd (upd (upd (upd (upd (upd (upd (upd (upd (upd (upd (upd (layF (fun _ => 0) 1) 6 1) 15 x0) 16 1) 17 50) 28 1) 29 0) 31 1) 30 x0) 19 1) 20 1) 7 1) 28 2)))] (fun u => [(a0, .inr (9, [.int 0, .ref a2, .int 0, .int 0, .int 0, .int 0, .int 0, .int (-1), .ref a1, .ref a3, .ref a4, .ref a5, .int 1, .int 0, .int 0, .int 0, .int 0, .ref a6])), (a1, .inl (cs 0, 45783, .inl (upd (upd (upd (upd (upd (upd (upd (upd (upd (upd (upd (upd (layF (fun _ => 0) 1) 6 1) 15 x0) 16 1) 17 50) 28 1) 29 0) 31 1) 30 x0) 19 1) 20 1) 7 1) 28 2)))]) := by
  refine KV.of cX9_set 4 none (by decide) rfl (Nat.le_of_ble_eq_true rfl) ?_
  intro p e s m below meth c A ls hx hb hr hml hown hts hlocks hin hP hN hD hA hS hl
  have hown : s.vm.findClass RX9 = some m.cls := hown
  have hl : lv_has ls 4 [(0, .ref a0), (1, .int 0), (2, .int 8), (3, .int 1)] := hl
  refine lv_aload_n hx hb dX9_set_0 rfl (lv_at hl 0 rfl) ?_
  refine va_get (D := D) (ci := 9) (v := .ref a1) (C := RX9) (T := TX9) (N := 18) hx hb hts iX9_set_9 hown hN.1 hP 0 rfl rfl 8 (by decide) (hts _ mX9_set_1) (fun _ h9 => h9) rfl dX9_set_1 ?_
  refine lv_iload_n hx hb dX9_set_4 rfl (lv_at hl 1 rfl) ?_
  refine cs_i (As := [.int 0]) (rest := [.ref a1]) (wr := [(a0, .inr (9, [.int 0, .ref a2, .int 0, .int 0, .int 0, .int 0, .int 0, .int (-1), .ref a1, .ref a3, .ref a4, .ref a5, .int 1, .int 0, .int 0, .int 0, .int 0, .ref a6])), (a1, .inl (cs 0, 45783, .inl (upd (upd (upd (upd (upd (upd (upd (upd (upd (upd (upd (upd (layF (fun _ => 0) 1) 6 1) 15 x0) 16 1) 17 50) 28 1) 29 0) 31 1) 30 x0) 19 1) 20 1) 7 1) 28 2)))]) ⟨hx, hb, hml, hown, hts⟩ (fun sz => k16_X9_playerAt l D cs sz ) (va_cwS 1 hts gX9_set_X9_playerAt rfl rfl rfl hdX9_playerAt_o ⟨Nat.le_of_ble_eq_true rfl, Nat.le_of_ble_eq_true rfl⟩) hN hP hD hS hA [] [0, 1] rfl rfl rfl rfl (by decide) rfl rfl hl.1 (Nat.le_of_ble_eq_true rfl) dX9_set_5 (Nat.le_of_ble_eq_true rfl) (Nat.le_of_ble_eq_true rfl) (fun u0 H locs hP hD hS => ?_)
  have hP : va_P D vwCl [(a0, .inr (9, [.int 0, .ref a2, .int 0, .int 0, .int 0, .int 0, .int 0, .int (-1), .ref a1, .ref a3, .ref a4, .ref a5, .int 1, .int 0, .int 0, .int 0, .int 0, .ref a6])), (a1, .inl (cs 0, 45783, .inl (upd (upd (upd (upd (upd (upd (upd (upd (upd (upd (upd (upd (layF (fun _ => 0) 1) 6 1) 15 x0) 16 1) 17 50) 28 1) 29 0) 31 1) 30 x0) 19 1) 20 1) 7 1) 28 2)))] H := hP
  have hD : va_D A [(a0, .inr (9, [.int 0, .ref a2, .int 0, .int 0, .int 0, .int 0, .int 0, .int (-1), .ref a1, .ref a3, .ref a4, .ref a5, .int 1, .int 0, .int 0, .int 0, .int 0, .ref a6])), (a1, .inl (cs 0, 45783, .inl (upd (upd (upd (upd (upd (upd (upd (upd (upd (upd (upd (upd (layF (fun _ => 0) 1) 6 1) 15 x0) 16 1) 17 50) 28 1) 29 0) 31 1) 30 x0) 19 1) 20 1) 7 1) 28 2)))] := hD
  refine W.widen (k := 0) (n := 0) (Nat.le_of_ble_eq_true rfl) (Nat.le_of_ble_eq_true rfl) ?_
  refine lv_iload_n hx hb dX9_set_8 rfl (lv_at hl 2 rfl) ?_
  refine lv_iadd hx hb dX9_set_9 ?_
  refine tp_i (31) (by decide) ?_
  refine lv_iload_n hx hb dX9_set_10 rfl (lv_at hl 3 rfl) ?_
  refine st_i (g := (upd (upd (upd (upd (upd (upd (upd (upd (upd (upd (upd (upd (layF (fun _ => 0) 1) 6 1) 15 x0) 16 1) 17 50) 28 1) 29 0) 31 1) 30 x0) 19 1) 20 1) 7 1) 28 2)) hx hb hN hP hD hS 1 rfl (vin (by decide +kernel)) (upd_id (by first | rfl | decide +kernel)) dX9_set_11 (fun H locs hP hD hS => ?_)
  have hP : va_P D vwCl [(a0, .inr (9, [.int 0, .ref a2, .int 0, .int 0, .int 0, .int 0, .int 0, .int (-1), .ref a1, .ref a3, .ref a4, .ref a5, .int 1, .int 0, .int 0, .int 0, .int 0, .ref a6])), (a1, .inl (cs 0, 45783, .inl (upd (upd (upd (upd (upd (upd (upd (upd (upd (upd (upd (upd (layF (fun _ => 0) 1) 6 1) 15 x0) 16 1) 17 50) 28 1) 29 0) 31 1) 30 x0) 19 1) 20 1) 7 1) 28 2)))] H := hP
  have hD : va_D A [(a0, .inr (9, [.int 0, .ref a2, .int 0, .int 0, .int 0, .int 0, .int 0, .int (-1), .ref a1, .ref a3, .ref a4, .ref a5, .int 1, .int 0, .int 0, .int 0, .int 0, .ref a6])), (a1, .inl (cs 0, 45783, .inl (upd (upd (upd (upd (upd (upd (upd (upd (upd (upd (upd (upd (layF (fun _ => 0) 1) 6 1) 15 x0) 16 1) 17 50) 28 1) 29 0) 31 1) 30 x0) 19 1) 20 1) 7 1) 28 2)))] := hD
  exact en_v (fun k => ([] : List Nat).getD k 0) hx hb hr hlocks hP hD hS (Nat.le_of_ble_eq_true rfl) (Nat.le_of_ble_eq_true rfl) dX9_set_12
set_option maxHeartbeats 4000000 in
set_option maxRecDepth 100000 in
theorem k477_X9_set (l : Launch) (D : va_G) (cs : Nat → ClassId) (sz : Nat) (a0 a1 a2 a3 a4 a5 a6 : Nat) (x0 : Int32) : KV l yX9_set wsX9_set 1 20 0 0 D cs sz [.ref a0, .int 0, .int 7, .int x0] [(a0, .inr (9, [.int 0, .ref a2, .int 0, .int 0, .int 0, .int 0, .int 0, .int (-1), .ref a1, .ref a3, .ref a4, .ref a5, .int 1, .int 0, .int 0, .int 0, .int 0, .ref a6])), (a1, .inl (cs 0, 45783, .inl (upd (upd (upd (upd (upd (upd (upd (upd (upd (upd (upd (upd (layF (fun _ => 0) 1) 6 1) 15 x0) 16 1) 17 50) 28 1) 29 0) 31 1) 30 x0) 19 1) 20 1) 7 1) 28 2)))] (fun u => [(a0, .inr (9, [.int 0, .ref a2, .int 0, .int 0, .int 0, .int 0, .int 0, .int (-1), .ref a1, .ref a3, .ref a4, .ref a5, .int 1, .int 0, .int 0, .int 0, .int 0, .ref a6])), (a1, .inl (cs 0, 45783, .inl (upd (upd (upd (upd (upd (upd (upd (upd (upd (upd (upd (upd (layF (fun _ => 0) 1) 6 1) 15 x0) 16 1) 17 50) 28 1) 29 0) 31 1) 30 x0) 19 1) 20 1) 7 1) 28 2)))]) := by
  refine KV.of cX9_set 4 none (by decide) rfl (Nat.le_of_ble_eq_true rfl) ?_
  intro p e s m below meth c A ls hx hb hr hml hown hts hlocks hin hP hN hD hA hS hl
  have hown : s.vm.findClass RX9 = some m.cls := hown
  have hl : lv_has ls 4 [(0, .ref a0), (1, .int 0), (2, .int 7), (3, .int x0)] := hl
  refine lv_aload_n hx hb dX9_set_0 rfl (lv_at hl 0 rfl) ?_
  refine va_get (D := D) (ci := 9) (v := .ref a1) (C := RX9) (T := TX9) (N := 18) hx hb hts iX9_set_9 hown hN.1 hP 0 rfl rfl 8 (by decide) (hts _ mX9_set_1) (fun _ h9 => h9) rfl dX9_set_1 ?_
  refine lv_iload_n hx hb dX9_set_4 rfl (lv_at hl 1 rfl) ?_
  refine cs_i (As := [.int 0]) (rest := [.ref a1]) (wr := [(a0, .inr (9, [.int 0, .ref a2, .int 0, .int 0, .int 0, .int 0, .int 0, .int (-1), .ref a1, .ref a3, .ref a4, .ref a5, .int 1, .int 0, .int 0, .int 0, .int 0, .ref a6])), (a1, .inl (cs 0, 45783, .inl (upd (upd (upd (upd (upd (upd (upd (upd (upd (upd (upd (upd (layF (fun _ => 0) 1) 6 1) 15 x0) 16 1) 17 50) 28 1) 29 0) 31 1) 30 x0) 19 1) 20 1) 7 1) 28 2)))]) ⟨hx, hb, hml, hown, hts⟩ (fun sz => k16_X9_playerAt l D cs sz ) (va_cwS 1 hts gX9_set_X9_playerAt rfl rfl rfl hdX9_playerAt_o ⟨Nat.le_of_ble_eq_true rfl, Nat.le_of_ble_eq_true rfl⟩) hN hP hD hS hA [] [0, 1] rfl rfl rfl rfl (by decide) rfl rfl hl.1 (Nat.le_of_ble_eq_true rfl) dX9_set_5 (Nat.le_of_ble_eq_true rfl) (Nat.le_of_ble_eq_true rfl) (fun u0 H locs hP hD hS => ?_)
  have hP : va_P D vwCl [(a0, .inr (9, [.int 0, .ref a2, .int 0, .int 0, .int 0, .int 0, .int 0, .int (-1), .ref a1, .ref a3, .ref a4, .ref a5, .int 1, .int 0, .int 0, .int 0, .int 0, .ref a6])), (a1, .inl (cs 0, 45783, .inl (upd (upd (upd (upd (upd (upd (upd (upd (upd (upd (upd (upd (layF (fun _ => 0) 1) 6 1) 15 x0) 16 1) 17 50) 28 1) 29 0) 31 1) 30 x0) 19 1) 20 1) 7 1) 28 2)))] H := hP
  have hD : va_D A [(a0, .inr (9, [.int 0, .ref a2, .int 0, .int 0, .int 0, .int 0, .int 0, .int (-1), .ref a1, .ref a3, .ref a4, .ref a5, .int 1, .int 0, .int 0, .int 0, .int 0, .ref a6])), (a1, .inl (cs 0, 45783, .inl (upd (upd (upd (upd (upd (upd (upd (upd (upd (upd (upd (upd (layF (fun _ => 0) 1) 6 1) 15 x0) 16 1) 17 50) 28 1) 29 0) 31 1) 30 x0) 19 1) 20 1) 7 1) 28 2)))] := hD
  refine W.widen (k := 0) (n := 0) (Nat.le_of_ble_eq_true rfl) (Nat.le_of_ble_eq_true rfl) ?_
  refine lv_iload_n hx hb dX9_set_8 rfl (lv_at hl 2 rfl) ?_
  refine lv_iadd hx hb dX9_set_9 ?_
  refine tp_i (30) (by decide) ?_
  refine lv_iload_n hx hb dX9_set_10 rfl (lv_at hl 3 rfl) ?_
  refine st_i (g := (upd (upd (upd (upd (upd (upd (upd (upd (upd (upd (upd (upd (layF (fun _ => 0) 1) 6 1) 15 x0) 16 1) 17 50) 28 1) 29 0) 31 1) 30 x0) 19 1) 20 1) 7 1) 28 2)) hx hb hN hP hD hS 1 rfl (vin (by decide +kernel)) (upd_id (by first | rfl | decide +kernel)) dX9_set_11 (fun H locs hP hD hS => ?_)
  have hP : va_P D vwCl [(a0, .inr (9, [.int 0, .ref a2, .int 0, .int 0, .int 0, .int 0, .int 0, .int (-1), .ref a1, .ref a3, .ref a4, .ref a5, .int 1, .int 0, .int 0, .int 0, .int 0, .ref a6])), (a1, .inl (cs 0, 45783, .inl (upd (upd (upd (upd (upd (upd (upd (upd (upd (upd (upd (upd (layF (fun _ => 0) 1) 6 1) 15 x0) 16 1) 17 50) 28 1) 29 0) 31 1) 30 x0) 19 1) 20 1) 7 1) 28 2)))] H := hP
  have hD : va_D A [(a0, .inr (9, [.int 0, .ref a2, .int 0, .int 0, .int 0, .int 0, .int 0, .int (-1), .ref a1, .ref a3, .ref a4, .ref a5, .int 1, .int 0, .int 0, .int 0, .int 0, .ref a6])), (a1, .inl (cs 0, 45783, .inl (upd (upd (upd (upd (upd (upd (upd (upd (upd (upd (upd (upd (layF (fun _ => 0) 1) 6 1) 15 x0) 16 1) 17 50) 28 1) 29 0) 31 1) 30 x0) 19 1) 20 1) 7 1) 28 2)))] := hD
  exact en_v (fun k => ([] : List Nat).getD k 0) hx hb hr hlocks hP hD hS (Nat.le_of_ble_eq_true rfl) (Nat.le_of_ble_eq_true rfl) dX9_set_12
set_option maxHeartbeats 4000000 in
set_option maxRecDepth 100000 in
theorem k478_X9_plan (l : Launch) (D : va_G) (cs : Nat → ClassId) (sz : Nat) (a0 a1 a2 a3 a4 a5 a6 : Nat) (x0 : Int32) : KV l yX9_plan wsX9_plan 2 43 0 0 D cs sz [.ref a0, .int 0, .int 2, .int 0, .int 1, .int x0] [(a0, .inr (9, [.int 0, .ref a2, .int 0, .int 0, .int 0, .int 0, .int 0, .int (-1), .ref a1, .ref a3, .ref a4, .ref a5, .int 1, .int 0, .int 0, .int 0, .int 0, .ref a6])), (a1, .inl (cs 0, 45783, .inl (upd (upd (upd (upd (upd (upd (upd (upd (upd (upd (upd (layF (fun _ => 0) 1) 6 1) 15 x0) 16 1) 17 50) 28 1) 29 0) 31 1) 30 x0) 19 1) 20 1) 7 1)))] (fun u => [(a0, .inr (9, [.int 0, .ref a2, .int 0, .int 0, .int 0, .int 0, .int 0, .int (-1), .ref a1, .ref a3, .ref a4, .ref a5, .int 1, .int 0, .int 0, .int 0, .int 0, .ref a6])), (a1, .inl (cs 0, 45783, .inl (upd (upd (upd (upd (upd (upd (upd (upd (upd (upd (upd (upd (layF (fun _ => 0) 1) 6 1) 15 x0) 16 1) 17 50) 28 1) 29 0) 31 1) 30 x0) 19 1) 20 1) 7 1) 28 2)))]) := by
  refine KV.of cX9_plan 6 none (by decide) rfl (Nat.le_of_ble_eq_true rfl) ?_
  intro p e s m below meth c A ls hx hb hr hml hown hts hlocks hin hP hN hD hA hS hl
  have hown : s.vm.findClass RX9 = some m.cls := hown
  have hl : lv_has ls 6 [(0, .ref a0), (1, .int 0), (2, .int 2), (3, .int 0), (4, .int 1), (5, .int x0)] := hl
  refine lv_aload_n hx hb dX9_plan_0 rfl (lv_at hl 0 rfl) ?_
  refine lv_iload_n hx hb dX9_plan_1 rfl (lv_at hl 1 rfl) ?_
  refine lv_iconst (v := 5) hx hb dX9_plan_2 (by decide) ?_
  refine cv_i (As := [.int 0, .int 5]) (rest := []) (b := a0) (wr := []) ⟨hx, hb, hml, hown, hts⟩ (fun sz => k472_X9_of l D cs sz a0 a1 a2 a3 a4 a5 a6 (x0)) (cwV 2 hts gX9_plan_X9_of rfl rfl rfl hdX9_of_v ⟨Nat.le_of_ble_eq_true rfl, Nat.le_of_ble_eq_true rfl⟩) hN hP hD hS hA [0, 1] [] rfl rfl rfl rfl (by decide) (ci := 9) (q0 := 0) rfl rfl rfl rfl hl.1 (Nat.le_of_ble_eq_true rfl) dX9_plan_3 (Nat.le_of_ble_eq_true rfl) (Nat.le_of_ble_eq_true rfl) (fun u0 H locs hP hD hS => ?_)
  have hP : va_P D vwCl [(a0, .inr (9, [.int 0, .ref a2, .int 0, .int 0, .int 0, .int 0, .int 0, .int (-1), .ref a1, .ref a3, .ref a4, .ref a5, .int 1, .int 0, .int 0, .int 0, .int 0, .ref a6])), (a1, .inl (cs 0, 45783, .inl (upd (upd (upd (upd (upd (upd (upd (upd (upd (upd (upd (layF (fun _ => 0) 1) 6 1) 15 x0) 16 1) 17 50) 28 1) 29 0) 31 1) 30 x0) 19 1) 20 1) 7 1)))] H := hP
  have hD : va_D A [(a0, .inr (9, [.int 0, .ref a2, .int 0, .int 0, .int 0, .int 0, .int 0, .int (-1), .ref a1, .ref a3, .ref a4, .ref a5, .int 1, .int 0, .int 0, .int 0, .int 0, .ref a6])), (a1, .inl (cs 0, 45783, .inl (upd (upd (upd (upd (upd (upd (upd (upd (upd (upd (upd (layF (fun _ => 0) 1) 6 1) 15 x0) 16 1) 17 50) 28 1) 29 0) 31 1) 30 x0) 19 1) 20 1) 7 1)))] := hD
  refine W.widen (k := 0) (n := 0) (Nat.le_of_ble_eq_true rfl) (Nat.le_of_ble_eq_true rfl) ?_
  refine lv_if_eq (tgt := 21) hx hb dX9_plan_6 (by decide) (fun c9 => absurd c9 (by decide)) (fun _ => ?_)
  refine lv_aload_n hx hb dX9_plan_9 rfl (lv_at hl 0 rfl) ?_
  refine lv_iload_n hx hb dX9_plan_10 rfl (lv_at hl 1 rfl) ?_
  refine lv_bipush (v := 6) hx hb dX9_plan_11 (by decide) ?_
  refine cv_i (As := [.int 0, .int 6]) (rest := []) (b := a0) (wr := []) ⟨hx, hb, hml, hown, hts⟩ (fun sz => k473_X9_of l D cs sz a0 a1 a2 a3 a4 a5 a6 (x0)) (cwV 2 hts gX9_plan_X9_of rfl rfl rfl hdX9_of_v ⟨Nat.le_of_ble_eq_true rfl, Nat.le_of_ble_eq_true rfl⟩) hN hP hD hS hA [0, 1] [] rfl rfl rfl rfl (by decide) (ci := 9) (q0 := 0) rfl rfl rfl rfl hl.1 (Nat.le_of_ble_eq_true rfl) dX9_plan_13 (Nat.le_of_ble_eq_true rfl) (Nat.le_of_ble_eq_true rfl) (fun u1 H locs hP hD hS => ?_)
  have hP : va_P D vwCl [(a0, .inr (9, [.int 0, .ref a2, .int 0, .int 0, .int 0, .int 0, .int 0, .int (-1), .ref a1, .ref a3, .ref a4, .ref a5, .int 1, .int 0, .int 0, .int 0, .int 0, .ref a6])), (a1, .inl (cs 0, 45783, .inl (upd (upd (upd (upd (upd (upd (upd (upd (upd (upd (upd (layF (fun _ => 0) 1) 6 1) 15 x0) 16 1) 17 50) 28 1) 29 0) 31 1) 30 x0) 19 1) 20 1) 7 1)))] H := hP
  have hD : va_D A [(a0, .inr (9, [.int 0, .ref a2, .int 0, .int 0, .int 0, .int 0, .int 0, .int (-1), .ref a1, .ref a3, .ref a4, .ref a5, .int 1, .int 0, .int 0, .int 0, .int 0, .ref a6])), (a1, .inl (cs 0, 45783, .inl (upd (upd (upd (upd (upd (upd (upd (upd (upd (upd (upd (layF (fun _ => 0) 1) 6 1) 15 x0) 16 1) 17 50) 28 1) 29 0) 31 1) 30 x0) 19 1) 20 1) 7 1)))] := hD
  refine W.widen (k := 0) (n := 0) (Nat.le_of_ble_eq_true rfl) (Nat.le_of_ble_eq_true rfl) ?_
  refine lv_iload_n hx hb dX9_plan_16 rfl (lv_at hl 3 rfl) ?_
  refine lv_icmp_le (tgt := 21) hx hb dX9_plan_17 (by decide) (fun _ => ?_) (fun c9 => absurd (by decide) c9)
  refine lv_aload_n hx hb dX9_plan_21 rfl (lv_at hl 0 rfl) ?_
  refine lv_iload_n hx hb dX9_plan_22 rfl (lv_at hl 1 rfl) ?_
  refine lv_iconst (v := 5) hx hb dX9_plan_23 (by decide) ?_
  refine lv_iload_n hx hb dX9_plan_24 rfl (lv_at hl 2 rfl) ?_
  refine cv_v (As := [.int 0, .int 5, .int 2]) (rest := []) (b := a0) (wr := []) ⟨hx, hb, hml, hown, hts⟩ (fun sz => k474_X9_set l D cs sz a0 a1 a2 a3 a4 a5 a6 (x0)) (cwV 3 hts gX9_plan_X9_set rfl rfl rfl hdX9_set_v ⟨Nat.le_of_ble_eq_true rfl, Nat.le_of_ble_eq_true rfl⟩) hN hP hD hS hA [0, 1] [] rfl rfl rfl rfl (by decide) (ci := 9) (q0 := 0) rfl rfl rfl rfl hl.1 (Nat.le_of_ble_eq_true rfl) dX9_plan_25 (Nat.le_of_ble_eq_true rfl) (Nat.le_of_ble_eq_true rfl) (fun u2 H locs hP hD hS => ?_)
  have hP : va_P D vwCl [(a0, .inr (9, [.int 0, .ref a2, .int 0, .int 0, .int 0, .int 0, .int 0, .int (-1), .ref a1, .ref a3, .ref a4, .ref a5, .int 1, .int 0, .int 0, .int 0, .int 0, .ref a6])), (a1, .inl (cs 0, 45783, .inl (upd (upd (upd (upd (upd (upd (upd (upd (upd (upd (upd (upd (layF (fun _ => 0) 1) 6 1) 15 x0) 16 1) 17 50) 28 1) 29 0) 31 1) 30 x0) 19 1) 20 1) 7 1) 28 2)))] H := hP
  have hD : va_D A [(a0, .inr (9, [.int 0, .ref a2, .int 0, .int 0, .int 0, .int 0, .int 0, .int (-1), .ref a1, .ref a3, .ref a4, .ref a5, .int 1, .int 0, .int 0, .int 0, .int 0, .ref a6])), (a1, .inl (cs 0, 45783, .inl (upd (upd (upd (upd (upd (upd (upd (upd (upd (upd (upd (upd (layF (fun _ => 0) 1) 6 1) 15 x0) 16 1) 17 50) 28 1) 29 0) 31 1) 30 x0) 19 1) 20 1) 7 1) 28 2)))] := hD
  refine W.widen (k := 0) (n := 0) (Nat.le_of_ble_eq_true rfl) (Nat.le_of_ble_eq_true rfl) ?_
  refine lv_aload_n hx hb dX9_plan_28 rfl (lv_at hl 0 rfl) ?_
  refine lv_iload_n hx hb dX9_plan_29 rfl (lv_at hl 1 rfl) ?_
  refine lv_bipush (v := 6) hx hb dX9_plan_30 (by decide) ?_
  refine lv_iload_n hx hb dX9_plan_32 rfl (lv_at hl 3 rfl) ?_
  refine cv_v (As := [.int 0, .int 6, .int 0]) (rest := []) (b := a0) (wr := []) ⟨hx, hb, hml, hown, hts⟩ (fun sz => k475_X9_set l D cs sz a0 a1 a2 a3 a4 a5 a6 (x0)) (cwV 3 hts gX9_plan_X9_set rfl rfl rfl hdX9_set_v ⟨Nat.le_of_ble_eq_true rfl, Nat.le_of_ble_eq_true rfl⟩) hN hP hD hS hA [0, 1] [] rfl rfl rfl rfl (by decide) (ci := 9) (q0 := 0) rfl rfl rfl rfl hl.1 (Nat.le_of_ble_eq_true rfl) dX9_plan_33 (Nat.le_of_ble_eq_true rfl) (Nat.le_of_ble_eq_true rfl) (fun u3 H locs hP hD hS => ?_)
  have hP : va_P D vwCl [(a0, .inr (9, [.int 0, .ref a2, .int 0, .int 0, .int 0, .int 0, .int 0, .int (-1), .ref a1, .ref a3, .ref a4, .ref a5, .int 1, .int 0, .int 0, .int 0, .int 0, .ref a6])), (a1, .inl (cs 0, 45783, .inl (upd (upd (upd (upd (upd (upd (upd (upd (upd (upd (upd (upd (layF (fun _ => 0) 1) 6 1) 15 x0) 16 1) 17 50) 28 1) 29 0) 31 1) 30 x0) 19 1) 20 1) 7 1) 28 2)))] H := hP
  have hD : va_D A [(a0, .inr (9, [.int 0, .ref a2, .int 0, .int 0, .int 0, .int 0, .int 0, .int (-1), .ref a1, .ref a3, .ref a4, .ref a5, .int 1, .int 0, .int 0, .int 0, .int 0, .ref a6])), (a1, .inl (cs 0, 45783, .inl (upd (upd (upd (upd (upd (upd (upd (upd (upd (upd (upd (upd (layF (fun _ => 0) 1) 6 1) 15 x0) 16 1) 17 50) 28 1) 29 0) 31 1) 30 x0) 19 1) 20 1) 7 1) 28 2)))] := hD
  refine W.widen (k := 0) (n := 0) (Nat.le_of_ble_eq_true rfl) (Nat.le_of_ble_eq_true rfl) ?_
  refine lv_aload_n hx hb dX9_plan_36 rfl (lv_at hl 0 rfl) ?_
  refine lv_iload_n hx hb dX9_plan_37 rfl (lv_at hl 1 rfl) ?_
  refine lv_bipush (v := 8) hx hb dX9_plan_38 (by decide) ?_
  refine lv_iload hx hb dX9_plan_40 (lv_at hl 4 rfl) ?_
  refine cv_v (As := [.int 0, .int 8, .int 1]) (rest := []) (b := a0) (wr := []) ⟨hx, hb, hml, hown, hts⟩ (fun sz => k476_X9_set l D cs sz a0 a1 a2 a3 a4 a5 a6 (x0)) (cwV 3 hts gX9_plan_X9_set rfl rfl rfl hdX9_set_v ⟨Nat.le_of_ble_eq_true rfl, Nat.le_of_ble_eq_true rfl⟩) hN hP hD hS hA [0, 1] [] rfl rfl rfl rfl (by decide) (ci := 9) (q0 := 0) rfl rfl rfl rfl hl.1 (Nat.le_of_ble_eq_true rfl) dX9_plan_42 (Nat.le_of_ble_eq_true rfl) (Nat.le_of_ble_eq_true rfl) (fun u4 H locs hP hD hS => ?_)
  have hP : va_P D vwCl [(a0, .inr (9, [.int 0, .ref a2, .int 0, .int 0, .int 0, .int 0, .int 0, .int (-1), .ref a1, .ref a3, .ref a4, .ref a5, .int 1, .int 0, .int 0, .int 0, .int 0, .ref a6])), (a1, .inl (cs 0, 45783, .inl (upd (upd (upd (upd (upd (upd (upd (upd (upd (upd (upd (upd (layF (fun _ => 0) 1) 6 1) 15 x0) 16 1) 17 50) 28 1) 29 0) 31 1) 30 x0) 19 1) 20 1) 7 1) 28 2)))] H := hP
  have hD : va_D A [(a0, .inr (9, [.int 0, .ref a2, .int 0, .int 0, .int 0, .int 0, .int 0, .int (-1), .ref a1, .ref a3, .ref a4, .ref a5, .int 1, .int 0, .int 0, .int 0, .int 0, .ref a6])), (a1, .inl (cs 0, 45783, .inl (upd (upd (upd (upd (upd (upd (upd (upd (upd (upd (upd (upd (layF (fun _ => 0) 1) 6 1) 15 x0) 16 1) 17 50) 28 1) 29 0) 31 1) 30 x0) 19 1) 20 1) 7 1) 28 2)))] := hD
  refine W.widen (k := 0) (n := 0) (Nat.le_of_ble_eq_true rfl) (Nat.le_of_ble_eq_true rfl) ?_
  refine lv_aload_n hx hb dX9_plan_45 rfl (lv_at hl 0 rfl) ?_
  refine lv_iload_n hx hb dX9_plan_46 rfl (lv_at hl 1 rfl) ?_
  refine lv_bipush (v := 7) hx hb dX9_plan_47 (by decide) ?_
  refine lv_iload hx hb dX9_plan_49 (lv_at hl 5 rfl) ?_
  refine cv_v (As := [.int 0, .int 7, .int x0]) (rest := []) (b := a0) (wr := []) ⟨hx, hb, hml, hown, hts⟩ (fun sz => k477_X9_set l D cs sz a0 a1 a2 a3 a4 a5 a6 (x0)) (cwV 3 hts gX9_plan_X9_set rfl rfl rfl hdX9_set_v ⟨Nat.le_of_ble_eq_true rfl, Nat.le_of_ble_eq_true rfl⟩) hN hP hD hS hA [0, 1] [] rfl rfl rfl rfl (by decide) (ci := 9) (q0 := 0) rfl rfl rfl rfl hl.1 (Nat.le_of_ble_eq_true rfl) dX9_plan_51 (Nat.le_of_ble_eq_true rfl) (Nat.le_of_ble_eq_true rfl) (fun u5 H locs hP hD hS => ?_)
  have hP : va_P D vwCl [(a0, .inr (9, [.int 0, .ref a2, .int 0, .int 0, .int 0, .int 0, .int 0, .int (-1), .ref a1, .ref a3, .ref a4, .ref a5, .int 1, .int 0, .int 0, .int 0, .int 0, .ref a6])), (a1, .inl (cs 0, 45783, .inl (upd (upd (upd (upd (upd (upd (upd (upd (upd (upd (upd (upd (layF (fun _ => 0) 1) 6 1) 15 x0) 16 1) 17 50) 28 1) 29 0) 31 1) 30 x0) 19 1) 20 1) 7 1) 28 2)))] H := hP
  have hD : va_D A [(a0, .inr (9, [.int 0, .ref a2, .int 0, .int 0, .int 0, .int 0, .int 0, .int (-1), .ref a1, .ref a3, .ref a4, .ref a5, .int 1, .int 0, .int 0, .int 0, .int 0, .ref a6])), (a1, .inl (cs 0, 45783, .inl (upd (upd (upd (upd (upd (upd (upd (upd (upd (upd (upd (upd (layF (fun _ => 0) 1) 6 1) 15 x0) 16 1) 17 50) 28 1) 29 0) 31 1) 30 x0) 19 1) 20 1) 7 1) 28 2)))] := hD
  refine W.widen (k := 0) (n := 0) (Nat.le_of_ble_eq_true rfl) (Nat.le_of_ble_eq_true rfl) ?_
  exact en_v (fun k => ([] : List Nat).getD k 0) hx hb hr hlocks hP hD hS (Nat.le_of_ble_eq_true rfl) (Nat.le_of_ble_eq_true rfl) dX9_plan_54
set_option maxHeartbeats 4000000 in
set_option maxRecDepth 100000 in
theorem k479_X9_sendToOthers (l : Launch) (D : va_G) (cs : Nat → ClassId) (sz : Nat) (a0 a1 a2 a3 a4 a5 a6 : Nat) (x0 : Int32) : KV l yX9_sendToOthers wsX9_sendToOthers 0 0 0 0 D cs sz [.ref a0, .int 4, .int 0, .int 0, .int 1, .int x0] [(a0, .inr (9, [.int 0, .ref a2, .int 0, .int 0, .int 0, .int 0, .int 0, .int (-1), .ref a1, .ref a3, .ref a4, .ref a5, .int 1, .int 0, .int 0, .int 0, .int 0, .ref a6])), (a1, .inl (cs 0, 45783, .inl (upd (upd (upd (upd (upd (upd (upd (upd (upd (upd (upd (upd (layF (fun _ => 0) 1) 6 1) 15 x0) 16 1) 17 50) 28 1) 29 0) 31 1) 30 x0) 19 1) 20 1) 7 1) 28 2)))] (fun u => [(a0, .inr (9, [.int 0, .ref a2, .int 0, .int 0, .int 0, .int 0, .int 0, .int (-1), .ref a1, .ref a3, .ref a4, .ref a5, .int 1, .int 0, .int 0, .int 0, .int 0, .ref a6])), (a1, .inl (cs 0, 45783, .inl (upd (upd (upd (upd (upd (upd (upd (upd (upd (upd (upd (upd (layF (fun _ => 0) 1) 6 1) 15 x0) 16 1) 17 50) 28 1) 29 0) 31 1) 30 x0) 19 1) 20 1) 7 1) 28 2)))]) := by
  refine KV.of cX9_sendToOthers 7 none (by decide) rfl (Nat.le_of_ble_eq_true rfl) ?_
  intro p e s m below meth c A ls hx hb hr hml hown hts hlocks hin hP hN hD hA hS hl
  have hown : s.vm.findClass RX9 = some m.cls := hown
  have hl : lv_has ls 7 [(0, .ref a0), (1, .int 4), (2, .int 0), (3, .int 0), (4, .int 1), (5, .int x0)] := hl
  refine lv_iconst (v := 0) hx hb dX9_sendToOthers_0 (by decide) ?_
  refine lv_istore (lv' := [(6, .int 0), (0, .ref a0), (1, .int 4), (2, .int 0), (3, .int 0), (4, .int 1), (5, .int x0)]) hx hb dX9_sendToOthers_1 hl (by decide) rfl (fun ls hl => ?_)
  refine lv_iload hx hb dX9_sendToOthers_3 (lv_at hl 0 rfl) ?_
  refine lv_aload_n hx hb dX9_sendToOthers_5 rfl (lv_at hl 1 rfl) ?_
  refine va_get (D := D) (ci := 9) (v := .ref a1) (C := RX9) (T := TX9) (N := 18) hx hb hts iX9_sendToOthers_9 hown hN.1 hP 0 rfl rfl 8 (by decide) (hts _ mX9_sendToOthers_1) (fun _ h9 => h9) rfl dX9_sendToOthers_6 ?_
  refine lv_iconst (v := 0) hx hb dX9_sendToOthers_9 (by decide) ?_
  refine ld_i (v := 1) hx hb hN hP 1 rfl (vin (by decide +kernel)) (by first | rfl | decide +kernel) dX9_sendToOthers_10 ?_
  refine lv_icmp_ge (tgt := 40) hx hb dX9_sendToOthers_11 (by decide) (fun c9 => absurd c9 (by decide)) (fun _ => ?_)
  refine lv_iload hx hb dX9_sendToOthers_14 (lv_at hl 0 rfl) ?_
  refine lv_iload_n hx hb dX9_sendToOthers_16 rfl (lv_at hl 3 rfl) ?_
  refine lv_icmp_eq (tgt := 34) hx hb dX9_sendToOthers_17 (by decide) (fun _ => ?_) (fun c9 => absurd (by decide) c9)
  refine lv_iinc (v := 1) (lv' := [(6, .int 1), (0, .ref a0), (1, .int 4), (2, .int 0), (3, .int 0), (4, .int 1), (5, .int x0)]) hx hb dX9_sendToOthers_34 hl (k := 0) rfl (by decide) (by decide) rfl (fun ls hl => ?_)
  refine lv_goto (tgt := 3) hx hb dX9_sendToOthers_37 (by decide) ?_
  refine lv_iload hx hb dX9_sendToOthers_3 (lv_at hl 0 rfl) ?_
  refine lv_aload_n hx hb dX9_sendToOthers_5 rfl (lv_at hl 1 rfl) ?_
  refine va_get (D := D) (ci := 9) (v := .ref a1) (C := RX9) (T := TX9) (N := 18) hx hb hts iX9_sendToOthers_9 hown hN.1 hP 0 rfl rfl 8 (by decide) (hts _ mX9_sendToOthers_1) (fun _ h9 => h9) rfl dX9_sendToOthers_6 ?_
  refine lv_iconst (v := 0) hx hb dX9_sendToOthers_9 (by decide) ?_
  refine ld_i (v := 1) hx hb hN hP 1 rfl (vin (by decide +kernel)) (by first | rfl | decide +kernel) dX9_sendToOthers_10 ?_
  refine lv_icmp_ge (tgt := 40) hx hb dX9_sendToOthers_11 (by decide) (fun _ => ?_) (fun c9 => absurd (by decide) c9)
  exact en_v (fun k => ([] : List Nat).getD k 0) hx hb hr hlocks hP hD hS (Nat.le_of_ble_eq_true rfl) (Nat.le_of_ble_eq_true rfl) dX9_sendToOthers_40
