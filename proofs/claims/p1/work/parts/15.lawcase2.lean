set_option maxHeartbeats 4000000 in
set_option maxRecDepth 100000 in
theorem law_case_5 {p : Program} {e : Env} {s : State} {m : MethodId} {below : List Frame} {meth : Method} {c : Code} (l : Launch) (hl9 : l.stackTraces = false) {b : Nat} {xs : Nat → Int32} (C0 : lw_At p s m meth c b 6 xs) {dC : Nat → ClassId} {dI : Nat → Nat → Nat} (qK qd qb qy qf qz qc qm qw qp qM q_buffer q_gone q_first q_many q_lengths q_authors q_sums q_row q_made q_base q_text q_other q_piece qo : Nat) (cD cB cB2 cS cO : ClassId) (gL : Nat → Int32) (hgL : ∀ i, i < 512 → gL i = (-1))  (hN : nw_ok s) (hTw : tw_ok s) (hK : va_K (dC, dI) vwCl [(cD, .object R_D), (cB, .byte), (cB2, .byte), (cS, .short), (cO, .long)] s) (H : Heap) (locs : List Loc) (hP : va_P (dC, dI) vwCl [(qK, .inr (0, [.ref qd, .ref qb, .ref qf, .ref qc, .ref qm, .ref qw, .ref qp, .int 0, .int (-1)])), (qd, .inl (cD, 8, .inr (.inr (.inr (.inr (fun _ => none)))))), (qb, .inr (1, [.ref qy, .int 0])), (qy, .inl (cB, 256, .inl (fun _ => 0))), (qf, .inr (1, [.ref qz, .int 0])), (qp, .inr (4, [.int 0, .int 0, .int 0])), (qM, .inr (7, [.int 0, .int 0, .int (-1), .ref q_buffer, .int 0, .int 0, .ref q_gone, .ref q_first, .ref q_many, .ref q_lengths, .ref q_authors, .ref q_sums, .ref q_row, .ref q_made, .int 0, .ref q_base, .int 0, .ref q_text, .int (-1), .int (-1), .ref q_other, .int 0, .ref q_piece, .int 0, .int 0, .int 0, .int 0])), (q_buffer, .inl (cB2, 256, .inl (fun _ => 0))), (q_lengths, .inl (cS, 512, .inl (gL))), (qo, .inl (cO, 1, .inr (.inl (fun _ => 0))))] H) (hD : va_D (fun q : Nat => s.heap.size ≤ q) [(qK, .inr (0, [.ref qd, .ref qb, .ref qf, .ref qc, .ref qm, .ref qw, .ref qp, .int 0, .int (-1)])), (qd, .inl (cD, 8, .inr (.inr (.inr (.inr (fun _ => none)))))), (qb, .inr (1, [.ref qy, .int 0])), (qy, .inl (cB, 256, .inl (fun _ => 0))), (qf, .inr (1, [.ref qz, .int 0])), (qp, .inr (4, [.int 0, .int 0, .int 0])), (qM, .inr (7, [.int 0, .int 0, .int (-1), .ref q_buffer, .int 0, .int 0, .ref q_gone, .ref q_first, .ref q_many, .ref q_lengths, .ref q_authors, .ref q_sums, .ref q_row, .ref q_made, .int 0, .ref q_base, .int 0, .ref q_text, .int (-1), .int (-1), .ref q_other, .int 0, .ref q_piece, .int 0, .int 0, .int 0, .int 0])), (q_buffer, .inl (cB2, 256, .inl (fun _ => 0))), (q_lengths, .inl (cS, 512, .inl (gL))), (qo, .inl (cO, 1, .inr (.inl (fun _ => 0))))]) (hS : va_S (fun q : Nat => s.heap.size ≤ q) s.heap H locs) (ls : Array Slot) (hl : lv_has ls 7 [(4, .int 0), (3, .ref qo), (2, .ref qM), (1, .ref qK), (0, .ref b)]) : W p l e room_1 s m #[Value.ref b] below meth c H locs 32 26000 (lw_Z below #[Value.ref b] s) (F0 m 486 ls []) := by
  obtain ⟨hx, hb, hr, hml, hown, hts, hX, hbl, hlocks, hgv⟩ := id C0
  have hw0 : ∀ w ∈ w0, w.before #[Value.ref b] s = true := fun w h => hts w (w0_ok w h).1
  have hA : ∀ q : Nat, s.heap.size ≤ q → (fun q : Nat => s.heap.size ≤ q) q := fun _ h => h
  have hbA : ¬ (fun q : Nat => s.heap.size ≤ q) b := Nat.not_le.mpr hbl
  refine lv_aload_n hx hb d_L_law_486 rfl (lv_at hl 3 rfl) ?_
  refine lv_aload_n hx hb d_L_law_487 rfl (lv_at hl 4 rfl) ?_
  refine lv_iload hx hb d_L_law_488 (lv_at hl 0 rfl) ?_
  refine lv_iconst (v := 1) hx hb d_L_law_490 (by decide) ?_
  refine lv_iadd hx hb d_L_law_491 ?_
  refine lv_topi (fun x_1 ex_1 => ?_)
  obtain rfl : x_1 = 1 := ex_1.trans (by decide +kernel)
  clear ex_1
  refine va_sld hx hb hX hbl hbA hS (by unfold vp_in; decide +kernel) d_L_law_492 ?_
  refine lv_aload_n hx hb d_L_law_493 rfl (lv_at hl 1 rfl) ?_
  have hPc := hP.sub (ws' := [(qK, .inr (0, [.ref qd, .ref qb, .ref qf, .ref qc, .ref qm, .ref qw, .ref qp, .int 0, .int (-1)])), (qp, .inr (4, [.int 0, .int 0, .int 0])), (qf, .inr (1, [.ref qz, .int 0])), (qo, .inl (cO, 1, .inr (.inl ((fun _ => 0)))))]) [0, 5, 4, 9] rfl
  have hKc := hK.sub (tys' := [(cO, .long)]) [4] rfl
  have hDc := hD.sub (ws' := [(qK, .inr (0, [.ref qd, .ref qb, .ref qf, .ref qc, .ref qm, .ref qw, .ref qp, .int 0, .int (-1)])), (qp, .inr (4, [.int 0, .int 0, .int 0])), (qf, .inr (1, [.ref qz, .int 0])), (qo, .inl (cO, 1, .inr (.inl ((fun _ => 0)))))]) [0, 5, 4, 9] (by decide) rfl
  have hFc := va_free (wc := [(qK, .inr (0, [.ref qd, .ref qb, .ref qf, .ref qc, .ref qm, .ref qw, .ref qp, .int 0, .int (-1)])), (qp, .inr (4, [.int 0, .int 0, .int 0])), (qf, .inr (1, [.ref qz, .int 0])), (qo, .inl (cO, 1, .inr (.inl ((fun _ => 0)))))]) hD hS hA [0, 5, 4, 9] rfl
  refine va_calli (va_runSW (As := [.ref qK, .int (xs (Int32.toNatClampNeg 1)), .ref qo]) (rest := []) ⟨hx, hb, hml, hown, hw0⟩ (w_out l dC dI H.size qK (.ref qd) (.ref qb) (.ref qc) (.ref qm) (.ref qw) 0 (-1) qp 0 0 qf (.ref qz) (xs (Int32.toNatClampNeg 1)) qo cO (fun _ => 0)) (csw_of 3 hw0 372 373 374 335 rfl rfl rfl rfl rfl rfl (by decide +kernel) ⟨by decide +kernel, by decide +kernel⟩) (prS_E hPc hKc hDc hN) rfl rfl hl.1 rfl (lv_room (Nat.le_of_ble_eq_true rfl)) d_L_law_494 ⟨by decide +kernel, by decide +kernel⟩) hS (fun q _ h => hFc q h) hFc (fun r_2 u t H1 locs ht hvm hw hB hz1 hk1 hS => ?_)
  obtain ⟨g_3, hu_4, hP1, hK1, hD1⟩ := hB
  rw [ht] at hP1
  have hK1 := va_K.moved hvm.symm hK1
  try dsimp only at hw
  obtain ⟨hP, hD⟩ := va_join (wr := [(qd, .inl (cD, 8, .inr (.inr (.inr (.inr (fun _ => none)))))), (qb, .inr (1, [.ref qy, .int 0])), (qy, .inl (cB, 256, .inl (fun _ => 0))), (qM, .inr (7, [.int 0, .int 0, .int (-1), .ref q_buffer, .int 0, .int 0, .ref q_gone, .ref q_first, .ref q_many, .ref q_lengths, .ref q_authors, .ref q_sums, .ref q_row, .ref q_made, .int 0, .ref q_base, .int 0, .ref q_text, .int (-1), .int (-1), .ref q_other, .int 0, .ref q_piece, .int 0, .int 0, .int 0, .int 0])), (q_buffer, .inl (cB2, 256, .inl (fun _ => 0))), (q_lengths, .inl (cS, 512, .inl (gL)))]) (w1 := [(qo, .inl (cO, 1, .inr (.inl (g_3))))]) hP hD [0, 5, 4, 9] [1, 2, 3, 6, 7, 8] rfl rfl (by decide) (by decide) hk1 hFc hP1 hD1
  generalize H1 = H at hP hS ⊢
  replace hP : va_P (dC, dI) vwCl [(qd, .inl (cD, 8, .inr (.inr (.inr (.inr (fun _ => none)))))), (qb, .inr (1, [.ref qy, .int 0])), (qy, .inl (cB, 256, .inl (fun _ => 0))), (qM, .inr (7, [.int 0, .int 0, .int (-1), .ref q_buffer, .int 0, .int 0, .ref q_gone, .ref q_first, .ref q_many, .ref q_lengths, .ref q_authors, .ref q_sums, .ref q_row, .ref q_made, .int 0, .ref q_base, .int 0, .ref q_text, .int (-1), .int (-1), .ref q_other, .int 0, .ref q_piece, .int 0, .int 0, .int 0, .int 0])), (q_buffer, .inl (cB2, 256, .inl (fun _ => 0))), (q_lengths, .inl (cS, 512, .inl (gL))), (qo, .inl (cO, 1, .inr (.inl (g_3))))] H := hP
  replace hD : va_D (fun q : Nat => s.heap.size ≤ q) [(qd, .inl (cD, 8, .inr (.inr (.inr (.inr (fun _ => none)))))), (qb, .inr (1, [.ref qy, .int 0])), (qy, .inl (cB, 256, .inl (fun _ => 0))), (qM, .inr (7, [.int 0, .int 0, .int (-1), .ref q_buffer, .int 0, .int 0, .ref q_gone, .ref q_first, .ref q_many, .ref q_lengths, .ref q_authors, .ref q_sums, .ref q_row, .ref q_made, .int 0, .ref q_base, .int 0, .ref q_text, .int (-1), .int (-1), .ref q_other, .int 0, .ref q_piece, .int 0, .int 0, .int 0, .int 0])), (q_buffer, .inl (cB2, 256, .inl (fun _ => 0))), (q_lengths, .inl (cS, 512, .inl (gL))), (qo, .inl (cO, 1, .inr (.inl (g_3))))] := hD
  replace hK : va_K (dC, dI) vwCl [(cD, .object R_D), (cB, .byte), (cB2, .byte), (cS, .short), (cO, .long)] s := hK
  obtain rfl : r_2 = 0 := hw
  refine lv_istore (lv' := [(5, .int 0), (4, .int 0), (3, .ref qo), (2, .ref qM), (1, .ref qK), (0, .ref b)]) hx hb d_L_law_497 hl (by decide) rfl (fun ls hl => ?_)
  refine lv_aload_n hx hb d_L_law_499 rfl (lv_at hl 3 rfl) ?_
  refine lv_aload_n hx hb d_L_law_500 rfl (lv_at hl 5 rfl) ?_
  refine lv_iload hx hb d_L_law_501 (lv_at hl 1 rfl) ?_
  refine lv_iconst (v := 1) hx hb d_L_law_503 (by decide) ?_
  refine lv_iadd hx hb d_L_law_504 ?_
  refine lv_topi (fun x_5 ex_5 => ?_)
  obtain rfl : x_5 = 1 := ex_5.trans (by decide +kernel)
  clear ex_5
  refine va_sld hx hb hX hbl hbA hS (by unfold vp_in; decide +kernel) d_L_law_505 ?_
  have hPc := hP.sub (ws' := [(qM, .inr (7, [.int 0, .int 0, .int (-1), .ref q_buffer, .int 0, .int 0, .ref q_gone, .ref q_first, .ref q_many, .ref q_lengths, .ref q_authors, .ref q_sums, .ref q_row, .ref q_made, .int 0, .ref q_base, .int 0, .ref q_text, .int (-1), .int (-1), .ref q_other, .int 0, .ref q_piece, .int 0, .int 0, .int 0, .int 0]))]) [3] rfl
  have hKc := hK.sub (tys' := []) [] rfl
  have hDc := hD.sub (ws' := [(qM, .inr (7, [.int 0, .int 0, .int (-1), .ref q_buffer, .int 0, .int 0, .ref q_gone, .ref q_first, .ref q_many, .ref q_lengths, .ref q_authors, .ref q_sums, .ref q_row, .ref q_made, .int 0, .ref q_base, .int 0, .ref q_text, .int (-1), .int (-1), .ref q_other, .int 0, .ref q_piece, .int 0, .int 0, .int 0, .int 0]))]) [3] (by decide) rfl
  have hFc := va_free (wc := [(qM, .inr (7, [.int 0, .int 0, .int (-1), .ref q_buffer, .int 0, .int 0, .ref q_gone, .ref q_first, .ref q_many, .ref q_lengths, .ref q_authors, .ref q_sums, .ref q_row, .ref q_made, .int 0, .ref q_base, .int 0, .ref q_text, .int (-1), .int (-1), .ref q_other, .int 0, .ref q_piece, .int 0, .int 0, .int 0, .int 0]))]) hD hS hA [3] rfl
  refine va_calli (va_runV (As := [.int (xs (Int32.toNatClampNeg 1))]) (rest := []) ⟨hx, hb, hml, hown, hw0⟩ (m_out l dC dI H.size qM 0 (-1) (.ref q_buffer) 0 0 (.ref q_gone) (.ref q_first) (.ref q_many) (.ref q_lengths) (.ref q_authors) (.ref q_sums) (.ref q_row) (.ref q_made) 0 (.ref q_base) 0 (.ref q_text) (-1) (.ref q_other) 0 (.ref q_piece) 0 0 0 0 (xs (Int32.toNatClampNeg 1))) (cwV 1 hw0 (gd_V 375 376 377 173 378 rfl rfl rfl rfl rfl) rfl rfl rfl (by decide +kernel) ⟨by decide +kernel, by decide +kernel⟩) (prV_E hPc hKc hDc hN (va_recv hKc hPc (ci := 7) (q0 := 0) rfl rfl)) rfl rfl hl.1 rfl (lv_room (Nat.le_of_ble_eq_true rfl)) d_L_law_506 ⟨by decide +kernel, by decide +kernel⟩) hS (fun q _ h => hFc q h) hFc (fun r_6 u t H1 locs ht hvm hw hB hz1 hk1 hS => ?_)
  obtain ⟨hP1, hK1, hD1⟩ := hB
  rw [ht] at hP1
  have hK1 := va_K.moved hvm.symm hK1
  try dsimp only at hw
  obtain ⟨hP, hD⟩ := va_join (wr := [(qd, .inl (cD, 8, .inr (.inr (.inr (.inr (fun _ => none)))))), (qb, .inr (1, [.ref qy, .int 0])), (qy, .inl (cB, 256, .inl (fun _ => 0))), (q_buffer, .inl (cB2, 256, .inl (fun _ => 0))), (q_lengths, .inl (cS, 512, .inl (gL))), (qo, .inl (cO, 1, .inr (.inl (g_3))))]) (w1 := [(qM, .inr (7, [.int 0, .int 0, .int (-1), .ref q_buffer, .int 0, .int 0, .ref q_gone, .ref q_first, .ref q_many, .ref q_lengths, .ref q_authors, .ref q_sums, .ref q_row, .ref q_made, .int 0, .ref q_base, .int 0, .ref q_text, .int (-1), .int (-1), .ref q_other, .int 0, .ref q_piece, .int 0, .int 0, .int 0, .int 0]))]) hP hD [3] [0, 1, 2, 4, 5, 6] rfl rfl (by decide) (by decide) hk1 hFc hP1 hD1
  generalize H1 = H at hP hS ⊢
  replace hP : va_P (dC, dI) vwCl [(qd, .inl (cD, 8, .inr (.inr (.inr (.inr (fun _ => none)))))), (qb, .inr (1, [.ref qy, .int 0])), (qy, .inl (cB, 256, .inl (fun _ => 0))), (q_buffer, .inl (cB2, 256, .inl (fun _ => 0))), (q_lengths, .inl (cS, 512, .inl (gL))), (qo, .inl (cO, 1, .inr (.inl (g_3)))), (qM, .inr (7, [.int 0, .int 0, .int (-1), .ref q_buffer, .int 0, .int 0, .ref q_gone, .ref q_first, .ref q_many, .ref q_lengths, .ref q_authors, .ref q_sums, .ref q_row, .ref q_made, .int 0, .ref q_base, .int 0, .ref q_text, .int (-1), .int (-1), .ref q_other, .int 0, .ref q_piece, .int 0, .int 0, .int 0, .int 0]))] H := hP
  replace hD : va_D (fun q : Nat => s.heap.size ≤ q) [(qd, .inl (cD, 8, .inr (.inr (.inr (.inr (fun _ => none)))))), (qb, .inr (1, [.ref qy, .int 0])), (qy, .inl (cB, 256, .inl (fun _ => 0))), (q_buffer, .inl (cB2, 256, .inl (fun _ => 0))), (q_lengths, .inl (cS, 512, .inl (gL))), (qo, .inl (cO, 1, .inr (.inl (g_3)))), (qM, .inr (7, [.int 0, .int 0, .int (-1), .ref q_buffer, .int 0, .int 0, .ref q_gone, .ref q_first, .ref q_many, .ref q_lengths, .ref q_authors, .ref q_sums, .ref q_row, .ref q_made, .int 0, .ref q_base, .int 0, .ref q_text, .int (-1), .int (-1), .ref q_other, .int 0, .ref q_piece, .int 0, .int 0, .int 0, .int 0]))] := hD
  replace hK : va_K (dC, dI) vwCl [(cD, .object R_D), (cB, .byte), (cB2, .byte), (cS, .short), (cO, .long)] s := hK
  obtain rfl : r_6 = (-1) := hw
  refine lv_istore (lv' := [(6, .int (-1)), (5, .int 0), (4, .int 0), (3, .ref qo), (2, .ref qM), (1, .ref qK), (0, .ref b)]) hx hb d_L_law_509 hl (by decide) rfl (fun ls hl => ?_)
  refine lv_aload_n hx hb d_L_law_511 rfl (lv_at hl 4 rfl) ?_
  have hPc := hP.sub (ws' := [(qM, .inr (7, [.int 0, .int 0, .int (-1), .ref q_buffer, .int 0, .int 0, .ref q_gone, .ref q_first, .ref q_many, .ref q_lengths, .ref q_authors, .ref q_sums, .ref q_row, .ref q_made, .int 0, .ref q_base, .int 0, .ref q_text, .int (-1), .int (-1), .ref q_other, .int 0, .ref q_piece, .int 0, .int 0, .int 0, .int 0]))]) [6] rfl
  have hKc := hK.sub (tys' := []) [] rfl
  refine ps_i (va_runV (As := []) (rest := []) ⟨hx, hb, hml, hown, hw0⟩ (m_thrown l dC dI qM 0 0 (-1) (.ref q_buffer) 0 0 (.ref q_gone) (.ref q_first) (.ref q_many) (.ref q_lengths) (.ref q_authors) (.ref q_sums) (.ref q_row) (.ref q_made) 0 (.ref q_base) 0 (.ref q_text) (-1) (-1) (.ref q_other) 0 (.ref q_piece) 0 0 0 0) (cwV 0 hw0 (gd_V 340 341 342 173 343 rfl rfl rfl rfl rfl) rfl rfl rfl (by decide +kernel) ⟨by decide +kernel, by decide +kernel⟩) (prV_R hPc hKc hN (va_recv hKc hPc (ci := 7) (q0 := 0) rfl rfl)) rfl rfl hl.1 rfl (lv_room (Nat.le_of_ble_eq_true rfl)) d_L_law_512 ⟨by decide +kernel, by decide +kernel⟩) (fun r_8 hr_8 => ?_)
  obtain rfl : r_8 = 0 := hr_8
  refine lv_iload hx hb d_L_law_515 (lv_at hl 1 rfl) ?_
  refine lv_icmp_eq (tgt := 522) hx hb d_L_law_517 (by decide) (fun _ => ?_) (fun h9 => absurd h9 (by decide +kernel))
  refine lv_iload hx hb d_L_law_522 (lv_at hl 1 rfl) ?_
  refine lv_if_ne (tgt := 539) hx hb d_L_law_524 (by decide) (fun h9 => absurd h9 (by decide +kernel)) (fun _ => ?_)
  refine lv_aload_n hx hb d_L_law_527 rfl (lv_at hl 3 rfl) ?_
  refine lv_iconst (v := 0) hx hb d_L_law_528 (by decide) ?_
  refine va_lald hx hb hK hP 5 4 rfl rfl (by unfold vp_in; decide +kernel) d_L_law_529 ?_
  refine lv_topl (fun x_9 ex_9 => ?_)
  obtain rfl : x_9 = (-1) := ex_9.trans (by rw [sb_cl0]; exact hu_4)
  clear ex_9
  refine lv_iload hx hb d_L_law_530 (lv_at hl 0 rfl) ?_
  refine lv_i2l (v := (-1)) hx hb d_L_law_532 (by decide +kernel) ?_
  refine W.lcmp hx hb d_L_law_533 ?_
  refine lv_topi (fun x_10 ex_10 => ?_)
  obtain rfl : x_10 = 0 := ex_10.trans (by decide +kernel)
  clear ex_10
  refine lv_if_eq (tgt := 539) hx hb d_L_law_534 (by decide) (fun _ => ?_) (fun h9 => absurd h9 (by decide +kernel))
  refine lv_goto (tgt := 1332) hx hb d_L_law_539 (by decide) ?_
  refine W.widen (k := 600002) (n := 7302232) (by decide +kernel) (by decide +kernel) ?_
  exact law_end l hl9 C0 _ _ hS ls (lv_sub hl [2, 6] rfl)
set_option maxHeartbeats 4000000 in
set_option maxRecDepth 100000 in
theorem law_case_6 {p : Program} {e : Env} {s : State} {m : MethodId} {below : List Frame} {meth : Method} {c : Code} (l : Launch) (hl9 : l.stackTraces = false) {b : Nat} {xs : Nat → Int32} (C0 : lw_At p s m meth c b 6 xs) {dC : Nat → ClassId} {dI : Nat → Nat → Nat} (qK qd qb qy qf qz qc qm qw qp qM q_buffer q_gone q_first q_many q_lengths q_authors q_sums q_row q_made q_base q_text q_other q_piece qo : Nat) (cD cB cB2 cS cO : ClassId) (gL : Nat → Int32) (hgL : ∀ i, i < 512 → gL i = (-1))  (hN : nw_ok s) (hTw : tw_ok s) (hK : va_K (dC, dI) vwCl [(cD, .object R_D), (cB, .byte), (cB2, .byte), (cS, .short), (cO, .long)] s) (H : Heap) (locs : List Loc) (hP : va_P (dC, dI) vwCl [(qK, .inr (0, [.ref qd, .ref qb, .ref qf, .ref qc, .ref qm, .ref qw, .ref qp, .int 0, .int (-1)])), (qd, .inl (cD, 8, .inr (.inr (.inr (.inr (fun _ => none)))))), (qb, .inr (1, [.ref qy, .int 0])), (qy, .inl (cB, 256, .inl (fun _ => 0))), (qf, .inr (1, [.ref qz, .int 0])), (qp, .inr (4, [.int 0, .int 0, .int 0])), (qM, .inr (7, [.int 0, .int 0, .int (-1), .ref q_buffer, .int 0, .int 0, .ref q_gone, .ref q_first, .ref q_many, .ref q_lengths, .ref q_authors, .ref q_sums, .ref q_row, .ref q_made, .int 0, .ref q_base, .int 0, .ref q_text, .int (-1), .int (-1), .ref q_other, .int 0, .ref q_piece, .int 0, .int 0, .int 0, .int 0])), (q_buffer, .inl (cB2, 256, .inl (fun _ => 0))), (q_lengths, .inl (cS, 512, .inl (gL))), (qo, .inl (cO, 1, .inr (.inl (fun _ => 0))))] H) (hD : va_D (fun q : Nat => s.heap.size ≤ q) [(qK, .inr (0, [.ref qd, .ref qb, .ref qf, .ref qc, .ref qm, .ref qw, .ref qp, .int 0, .int (-1)])), (qd, .inl (cD, 8, .inr (.inr (.inr (.inr (fun _ => none)))))), (qb, .inr (1, [.ref qy, .int 0])), (qy, .inl (cB, 256, .inl (fun _ => 0))), (qf, .inr (1, [.ref qz, .int 0])), (qp, .inr (4, [.int 0, .int 0, .int 0])), (qM, .inr (7, [.int 0, .int 0, .int (-1), .ref q_buffer, .int 0, .int 0, .ref q_gone, .ref q_first, .ref q_many, .ref q_lengths, .ref q_authors, .ref q_sums, .ref q_row, .ref q_made, .int 0, .ref q_base, .int 0, .ref q_text, .int (-1), .int (-1), .ref q_other, .int 0, .ref q_piece, .int 0, .int 0, .int 0, .int 0])), (q_buffer, .inl (cB2, 256, .inl (fun _ => 0))), (q_lengths, .inl (cS, 512, .inl (gL))), (qo, .inl (cO, 1, .inr (.inl (fun _ => 0))))]) (hS : va_S (fun q : Nat => s.heap.size ≤ q) s.heap H locs) (ls : Array Slot) (hl : lv_has ls 7 [(4, .int 0), (3, .ref qo), (2, .ref qM), (1, .ref qK), (0, .ref b)]) : W p l e room_1 s m #[Value.ref b] below meth c H locs 32 26000 (lw_Z below #[Value.ref b] s) (F0 m 542 ls []) := by
  obtain ⟨hx, hb, hr, hml, hown, hts, hX, hbl, hlocks, hgv⟩ := id C0
  have hw0 : ∀ w ∈ w0, w.before #[Value.ref b] s = true := fun w h => hts w (w0_ok w h).1
  have hA : ∀ q : Nat, s.heap.size ≤ q → (fun q : Nat => s.heap.size ≤ q) q := fun _ h => h
  have hbA : ¬ (fun q : Nat => s.heap.size ≤ q) b := Nat.not_le.mpr hbl
  refine lv_aload_n hx hb d_L_law_542 rfl (lv_at hl 3 rfl) ?_
  refine lv_aload_n hx hb d_L_law_543 rfl (lv_at hl 1 rfl) ?_
  have hPc := hP.sub (ws' := [(qK, .inr (0, [.ref qd, .ref qb, .ref qf, .ref qc, .ref qm, .ref qw, .ref qp, .int 0, .int (-1)])), (qp, .inr (4, [.int 0, .int 0, .int 0])), (qo, .inl (cO, 1, .inr (.inl ((fun _ => 0)))))]) [0, 5, 9] rfl
  have hKc := hK.sub (tys' := [(cO, .long)]) [4] rfl
  have hDc := hD.sub (ws' := [(qK, .inr (0, [.ref qd, .ref qb, .ref qf, .ref qc, .ref qm, .ref qw, .ref qp, .int 0, .int (-1)])), (qp, .inr (4, [.int 0, .int 0, .int 0])), (qo, .inl (cO, 1, .inr (.inl ((fun _ => 0)))))]) [0, 5, 9] (by decide) rfl
  have hFc := va_free (wc := [(qK, .inr (0, [.ref qd, .ref qb, .ref qf, .ref qc, .ref qm, .ref qw, .ref qp, .int 0, .int (-1)])), (qp, .inr (4, [.int 0, .int 0, .int 0])), (qo, .inl (cO, 1, .inr (.inl ((fun _ => 0)))))]) hD hS hA [0, 5, 9] rfl
  refine va_calli (va_runSW (As := [.ref qK, .ref qo]) (rest := []) ⟨hx, hb, hml, hown, hw0⟩ (w_steps l dC dI H.size qK (.ref qd) (.ref qb) (.ref qf) (.ref qc) (.ref qm) (.ref qw) 0 qp 0 0 qo cO (fun _ => 0)) (csw_of 2 hw0 379 380 381 335 rfl rfl rfl rfl rfl rfl (by decide +kernel) ⟨by decide +kernel, by decide +kernel⟩) (prS_E hPc hKc hDc hN) rfl rfl hl.1 rfl (lv_room (Nat.le_of_ble_eq_true rfl)) d_L_law_544 ⟨by decide +kernel, by decide +kernel⟩) hS (fun q _ h => hFc q h) hFc (fun r_1 u t H1 locs ht hvm hw hB hz1 hk1 hS => ?_)
  obtain ⟨g_2, hu_3, hP1, hK1, hD1⟩ := hB
  rw [ht] at hP1
  have hK1 := va_K.moved hvm.symm hK1
  try dsimp only at hw
  obtain ⟨hP, hD⟩ := va_join (wr := [(qd, .inl (cD, 8, .inr (.inr (.inr (.inr (fun _ => none)))))), (qb, .inr (1, [.ref qy, .int 0])), (qy, .inl (cB, 256, .inl (fun _ => 0))), (qf, .inr (1, [.ref qz, .int 0])), (qM, .inr (7, [.int 0, .int 0, .int (-1), .ref q_buffer, .int 0, .int 0, .ref q_gone, .ref q_first, .ref q_many, .ref q_lengths, .ref q_authors, .ref q_sums, .ref q_row, .ref q_made, .int 0, .ref q_base, .int 0, .ref q_text, .int (-1), .int (-1), .ref q_other, .int 0, .ref q_piece, .int 0, .int 0, .int 0, .int 0])), (q_buffer, .inl (cB2, 256, .inl (fun _ => 0))), (q_lengths, .inl (cS, 512, .inl (gL)))]) (w1 := [(qo, .inl (cO, 1, .inr (.inl (g_2))))]) hP hD [0, 5, 9] [1, 2, 3, 4, 6, 7, 8] rfl rfl (by decide) (by decide) hk1 hFc hP1 hD1
  generalize H1 = H at hP hS ⊢
  replace hP : va_P (dC, dI) vwCl [(qd, .inl (cD, 8, .inr (.inr (.inr (.inr (fun _ => none)))))), (qb, .inr (1, [.ref qy, .int 0])), (qy, .inl (cB, 256, .inl (fun _ => 0))), (qf, .inr (1, [.ref qz, .int 0])), (qM, .inr (7, [.int 0, .int 0, .int (-1), .ref q_buffer, .int 0, .int 0, .ref q_gone, .ref q_first, .ref q_many, .ref q_lengths, .ref q_authors, .ref q_sums, .ref q_row, .ref q_made, .int 0, .ref q_base, .int 0, .ref q_text, .int (-1), .int (-1), .ref q_other, .int 0, .ref q_piece, .int 0, .int 0, .int 0, .int 0])), (q_buffer, .inl (cB2, 256, .inl (fun _ => 0))), (q_lengths, .inl (cS, 512, .inl (gL))), (qo, .inl (cO, 1, .inr (.inl (g_2))))] H := hP
  replace hD : va_D (fun q : Nat => s.heap.size ≤ q) [(qd, .inl (cD, 8, .inr (.inr (.inr (.inr (fun _ => none)))))), (qb, .inr (1, [.ref qy, .int 0])), (qy, .inl (cB, 256, .inl (fun _ => 0))), (qf, .inr (1, [.ref qz, .int 0])), (qM, .inr (7, [.int 0, .int 0, .int (-1), .ref q_buffer, .int 0, .int 0, .ref q_gone, .ref q_first, .ref q_many, .ref q_lengths, .ref q_authors, .ref q_sums, .ref q_row, .ref q_made, .int 0, .ref q_base, .int 0, .ref q_text, .int (-1), .int (-1), .ref q_other, .int 0, .ref q_piece, .int 0, .int 0, .int 0, .int 0])), (q_buffer, .inl (cB2, 256, .inl (fun _ => 0))), (q_lengths, .inl (cS, 512, .inl (gL))), (qo, .inl (cO, 1, .inr (.inl (g_2))))] := hD
  replace hK : va_K (dC, dI) vwCl [(cD, .object R_D), (cB, .byte), (cB2, .byte), (cS, .short), (cO, .long)] s := hK
  obtain rfl : r_1 = 0 := hw
  refine lv_istore (lv' := [(5, .int 0), (4, .int 0), (3, .ref qo), (2, .ref qM), (1, .ref qK), (0, .ref b)]) hx hb d_L_law_547 hl (by decide) rfl (fun ls hl => ?_)
  refine lv_aload_n hx hb d_L_law_549 rfl (lv_at hl 3 rfl) ?_
  have hPc := hP.sub (ws' := [(qM, .inr (7, [.int 0, .int 0, .int (-1), .ref q_buffer, .int 0, .int 0, .ref q_gone, .ref q_first, .ref q_many, .ref q_lengths, .ref q_authors, .ref q_sums, .ref q_row, .ref q_made, .int 0, .ref q_base, .int 0, .ref q_text, .int (-1), .int (-1), .ref q_other, .int 0, .ref q_piece, .int 0, .int 0, .int 0, .int 0]))]) [4] rfl
  have hKc := hK.sub (tys' := []) [] rfl
  have hDc := hD.sub (ws' := [(qM, .inr (7, [.int 0, .int 0, .int (-1), .ref q_buffer, .int 0, .int 0, .ref q_gone, .ref q_first, .ref q_many, .ref q_lengths, .ref q_authors, .ref q_sums, .ref q_row, .ref q_made, .int 0, .ref q_base, .int 0, .ref q_text, .int (-1), .int (-1), .ref q_other, .int 0, .ref q_piece, .int 0, .int 0, .int 0, .int 0]))]) [4] (by decide) rfl
  have hFc := va_free (wc := [(qM, .inr (7, [.int 0, .int 0, .int (-1), .ref q_buffer, .int 0, .int 0, .ref q_gone, .ref q_first, .ref q_many, .ref q_lengths, .ref q_authors, .ref q_sums, .ref q_row, .ref q_made, .int 0, .ref q_base, .int 0, .ref q_text, .int (-1), .int (-1), .ref q_other, .int 0, .ref q_piece, .int 0, .int 0, .int 0, .int 0]))]) hD hS hA [4] rfl
  refine va_calli (va_runV (As := []) (rest := []) ⟨hx, hb, hml, hown, hw0⟩ (m_steps l dC dI H.size qM 0 (-1) (.ref q_buffer) 0 0 (.ref q_gone) (.ref q_first) (.ref q_many) (.ref q_lengths) (.ref q_authors) (.ref q_sums) (.ref q_row) (.ref q_made) 0 (.ref q_base) 0 (.ref q_text) (-1) (.ref q_other) 0 (.ref q_piece) 0 0 0 0) (cwV 0 hw0 (gd_V 382 383 384 173 385 rfl rfl rfl rfl rfl) rfl rfl rfl (by decide +kernel) ⟨by decide +kernel, by decide +kernel⟩) (prV_E hPc hKc hDc hN (va_recv hKc hPc (ci := 7) (q0 := 0) rfl rfl)) rfl rfl hl.1 rfl (lv_room (Nat.le_of_ble_eq_true rfl)) d_L_law_550 ⟨by decide +kernel, by decide +kernel⟩) hS (fun q _ h => hFc q h) hFc (fun r_4 u t H1 locs ht hvm hw hB hz1 hk1 hS => ?_)
  obtain ⟨hP1, hK1, hD1⟩ := hB
  rw [ht] at hP1
  have hK1 := va_K.moved hvm.symm hK1
  try dsimp only at hw
  obtain ⟨hP, hD⟩ := va_join (wr := [(qd, .inl (cD, 8, .inr (.inr (.inr (.inr (fun _ => none)))))), (qb, .inr (1, [.ref qy, .int 0])), (qy, .inl (cB, 256, .inl (fun _ => 0))), (qf, .inr (1, [.ref qz, .int 0])), (q_buffer, .inl (cB2, 256, .inl (fun _ => 0))), (q_lengths, .inl (cS, 512, .inl (gL))), (qo, .inl (cO, 1, .inr (.inl (g_2))))]) (w1 := [(qM, .inr (7, [.int 0, .int 0, .int (-1), .ref q_buffer, .int 0, .int 0, .ref q_gone, .ref q_first, .ref q_many, .ref q_lengths, .ref q_authors, .ref q_sums, .ref q_row, .ref q_made, .int 0, .ref q_base, .int 0, .ref q_text, .int (-1), .int (-1), .ref q_other, .int 0, .ref q_piece, .int 0, .int 0, .int 0, .int 0]))]) hP hD [4] [0, 1, 2, 3, 5, 6, 7] rfl rfl (by decide) (by decide) hk1 hFc hP1 hD1
  generalize H1 = H at hP hS ⊢
  replace hP : va_P (dC, dI) vwCl [(qd, .inl (cD, 8, .inr (.inr (.inr (.inr (fun _ => none)))))), (qb, .inr (1, [.ref qy, .int 0])), (qy, .inl (cB, 256, .inl (fun _ => 0))), (qf, .inr (1, [.ref qz, .int 0])), (q_buffer, .inl (cB2, 256, .inl (fun _ => 0))), (q_lengths, .inl (cS, 512, .inl (gL))), (qo, .inl (cO, 1, .inr (.inl (g_2)))), (qM, .inr (7, [.int 0, .int 0, .int (-1), .ref q_buffer, .int 0, .int 0, .ref q_gone, .ref q_first, .ref q_many, .ref q_lengths, .ref q_authors, .ref q_sums, .ref q_row, .ref q_made, .int 0, .ref q_base, .int 0, .ref q_text, .int (-1), .int (-1), .ref q_other, .int 0, .ref q_piece, .int 0, .int 0, .int 0, .int 0]))] H := hP
  replace hD : va_D (fun q : Nat => s.heap.size ≤ q) [(qd, .inl (cD, 8, .inr (.inr (.inr (.inr (fun _ => none)))))), (qb, .inr (1, [.ref qy, .int 0])), (qy, .inl (cB, 256, .inl (fun _ => 0))), (qf, .inr (1, [.ref qz, .int 0])), (q_buffer, .inl (cB2, 256, .inl (fun _ => 0))), (q_lengths, .inl (cS, 512, .inl (gL))), (qo, .inl (cO, 1, .inr (.inl (g_2)))), (qM, .inr (7, [.int 0, .int 0, .int (-1), .ref q_buffer, .int 0, .int 0, .ref q_gone, .ref q_first, .ref q_many, .ref q_lengths, .ref q_authors, .ref q_sums, .ref q_row, .ref q_made, .int 0, .ref q_base, .int 0, .ref q_text, .int (-1), .int (-1), .ref q_other, .int 0, .ref q_piece, .int 0, .int 0, .int 0, .int 0]))] := hD
  replace hK : va_K (dC, dI) vwCl [(cD, .object R_D), (cB, .byte), (cB2, .byte), (cS, .short), (cO, .long)] s := hK
  obtain rfl : r_4 = (-1) := hw
  refine lv_istore (lv' := [(6, .int (-1)), (5, .int 0), (4, .int 0), (3, .ref qo), (2, .ref qM), (1, .ref qK), (0, .ref b)]) hx hb d_L_law_553 hl (by decide) rfl (fun ls hl => ?_)
  refine lv_aload_n hx hb d_L_law_555 rfl (lv_at hl 4 rfl) ?_
  have hPc := hP.sub (ws' := [(qM, .inr (7, [.int 0, .int 0, .int (-1), .ref q_buffer, .int 0, .int 0, .ref q_gone, .ref q_first, .ref q_many, .ref q_lengths, .ref q_authors, .ref q_sums, .ref q_row, .ref q_made, .int 0, .ref q_base, .int 0, .ref q_text, .int (-1), .int (-1), .ref q_other, .int 0, .ref q_piece, .int 0, .int 0, .int 0, .int 0]))]) [7] rfl
  have hKc := hK.sub (tys' := []) [] rfl
  refine ps_i (va_runV (As := []) (rest := []) ⟨hx, hb, hml, hown, hw0⟩ (m_thrown l dC dI qM 0 0 (-1) (.ref q_buffer) 0 0 (.ref q_gone) (.ref q_first) (.ref q_many) (.ref q_lengths) (.ref q_authors) (.ref q_sums) (.ref q_row) (.ref q_made) 0 (.ref q_base) 0 (.ref q_text) (-1) (-1) (.ref q_other) 0 (.ref q_piece) 0 0 0 0) (cwV 0 hw0 (gd_V 340 341 342 173 343 rfl rfl rfl rfl rfl) rfl rfl rfl (by decide +kernel) ⟨by decide +kernel, by decide +kernel⟩) (prV_R hPc hKc hN (va_recv hKc hPc (ci := 7) (q0 := 0) rfl rfl)) rfl rfl hl.1 rfl (lv_room (Nat.le_of_ble_eq_true rfl)) d_L_law_556 ⟨by decide +kernel, by decide +kernel⟩) (fun r_6 hr_6 => ?_)
  obtain rfl : r_6 = 0 := hr_6
  refine lv_iload hx hb d_L_law_559 (lv_at hl 1 rfl) ?_
  refine lv_icmp_eq (tgt := 566) hx hb d_L_law_561 (by decide) (fun _ => ?_) (fun h9 => absurd h9 (by decide +kernel))
  refine lv_iload hx hb d_L_law_566 (lv_at hl 1 rfl) ?_
  refine lv_if_ne (tgt := 583) hx hb d_L_law_568 (by decide) (fun h9 => absurd h9 (by decide +kernel)) (fun _ => ?_)
  refine lv_aload_n hx hb d_L_law_571 rfl (lv_at hl 3 rfl) ?_
  refine lv_iconst (v := 0) hx hb d_L_law_572 (by decide) ?_
  refine va_lald hx hb hK hP 6 4 rfl rfl (by unfold vp_in; decide +kernel) d_L_law_573 ?_
  refine lv_topl (fun x_7 ex_7 => ?_)
  obtain rfl : x_7 = (-1) := ex_7.trans (by rw [sb_cl0]; exact hu_3)
  clear ex_7
  refine lv_iload hx hb d_L_law_574 (lv_at hl 0 rfl) ?_
  refine lv_i2l (v := (-1)) hx hb d_L_law_576 (by decide +kernel) ?_
  refine W.lcmp hx hb d_L_law_577 ?_
  refine lv_topi (fun x_8 ex_8 => ?_)
  obtain rfl : x_8 = 0 := ex_8.trans (by decide +kernel)
  clear ex_8
  refine lv_if_eq (tgt := 583) hx hb d_L_law_578 (by decide) (fun _ => ?_) (fun h9 => absurd h9 (by decide +kernel))
  refine lv_goto (tgt := 1332) hx hb d_L_law_583 (by decide) ?_
  refine W.widen (k := 600002) (n := 7302232) (by decide +kernel) (by decide +kernel) ?_
  exact law_end l hl9 C0 _ _ hS ls (lv_sub hl [2, 6] rfl)
set_option maxHeartbeats 4000000 in
set_option maxRecDepth 100000 in
theorem law_case_7 {p : Program} {e : Env} {s : State} {m : MethodId} {below : List Frame} {meth : Method} {c : Code} (l : Launch) (hl9 : l.stackTraces = false) {b : Nat} {xs : Nat → Int32} (C0 : lw_At p s m meth c b 6 xs) {dC : Nat → ClassId} {dI : Nat → Nat → Nat} (qK qd qb qy qf qz qc qm qw qp qM q_buffer q_gone q_first q_many q_lengths q_authors q_sums q_row q_made q_base q_text q_other q_piece qo : Nat) (cD cB cB2 cS cO : ClassId) (gL : Nat → Int32) (hgL : ∀ i, i < 512 → gL i = (-1))  (hN : nw_ok s) (hTw : tw_ok s) (hK : va_K (dC, dI) vwCl [(cD, .object R_D), (cB, .byte), (cB2, .byte), (cS, .short), (cO, .long)] s) (H : Heap) (locs : List Loc) (hP : va_P (dC, dI) vwCl [(qK, .inr (0, [.ref qd, .ref qb, .ref qf, .ref qc, .ref qm, .ref qw, .ref qp, .int 0, .int (-1)])), (qd, .inl (cD, 8, .inr (.inr (.inr (.inr (fun _ => none)))))), (qb, .inr (1, [.ref qy, .int 0])), (qy, .inl (cB, 256, .inl (fun _ => 0))), (qf, .inr (1, [.ref qz, .int 0])), (qp, .inr (4, [.int 0, .int 0, .int 0])), (qM, .inr (7, [.int 0, .int 0, .int (-1), .ref q_buffer, .int 0, .int 0, .ref q_gone, .ref q_first, .ref q_many, .ref q_lengths, .ref q_authors, .ref q_sums, .ref q_row, .ref q_made, .int 0, .ref q_base, .int 0, .ref q_text, .int (-1), .int (-1), .ref q_other, .int 0, .ref q_piece, .int 0, .int 0, .int 0, .int 0])), (q_buffer, .inl (cB2, 256, .inl (fun _ => 0))), (q_lengths, .inl (cS, 512, .inl (gL))), (qo, .inl (cO, 1, .inr (.inl (fun _ => 0))))] H) (hD : va_D (fun q : Nat => s.heap.size ≤ q) [(qK, .inr (0, [.ref qd, .ref qb, .ref qf, .ref qc, .ref qm, .ref qw, .ref qp, .int 0, .int (-1)])), (qd, .inl (cD, 8, .inr (.inr (.inr (.inr (fun _ => none)))))), (qb, .inr (1, [.ref qy, .int 0])), (qy, .inl (cB, 256, .inl (fun _ => 0))), (qf, .inr (1, [.ref qz, .int 0])), (qp, .inr (4, [.int 0, .int 0, .int 0])), (qM, .inr (7, [.int 0, .int 0, .int (-1), .ref q_buffer, .int 0, .int 0, .ref q_gone, .ref q_first, .ref q_many, .ref q_lengths, .ref q_authors, .ref q_sums, .ref q_row, .ref q_made, .int 0, .ref q_base, .int 0, .ref q_text, .int (-1), .int (-1), .ref q_other, .int 0, .ref q_piece, .int 0, .int 0, .int 0, .int 0])), (q_buffer, .inl (cB2, 256, .inl (fun _ => 0))), (q_lengths, .inl (cS, 512, .inl (gL))), (qo, .inl (cO, 1, .inr (.inl (fun _ => 0))))]) (hS : va_S (fun q : Nat => s.heap.size ≤ q) s.heap H locs) (ls : Array Slot) (hl : lv_has ls 7 [(4, .int 0), (3, .ref qo), (2, .ref qM), (1, .ref qK), (0, .ref b)]) : W p l e room_1 s m #[Value.ref b] below meth c H locs 32 26000 (lw_Z below #[Value.ref b] s) (F0 m 586 ls []) := by
  obtain ⟨hx, hb, hr, hml, hown, hts, hX, hbl, hlocks, hgv⟩ := id C0
  have hw0 : ∀ w ∈ w0, w.before #[Value.ref b] s = true := fun w h => hts w (w0_ok w h).1
  have hA : ∀ q : Nat, s.heap.size ≤ q → (fun q : Nat => s.heap.size ≤ q) q := fun _ h => h
  have hbA : ¬ (fun q : Nat => s.heap.size ≤ q) b := Nat.not_le.mpr hbl
  refine lv_aload_n hx hb d_L_law_586 rfl (lv_at hl 3 rfl) ?_
  refine lv_aload_n hx hb d_L_law_587 rfl (lv_at hl 4 rfl) ?_
  refine lv_iload hx hb d_L_law_588 (lv_at hl 0 rfl) ?_
  refine lv_iconst (v := 1) hx hb d_L_law_590 (by decide) ?_
  refine lv_iadd hx hb d_L_law_591 ?_
  refine lv_topi (fun x_1 ex_1 => ?_)
  obtain rfl : x_1 = 1 := ex_1.trans (by decide +kernel)
  clear ex_1
  refine va_sld hx hb hX hbl hbA hS (by unfold vp_in; decide +kernel) d_L_law_592 ?_
  refine lv_aload_n hx hb d_L_law_593 rfl (lv_at hl 4 rfl) ?_
  refine lv_iload hx hb d_L_law_594 (lv_at hl 0 rfl) ?_
  refine lv_iconst (v := 2) hx hb d_L_law_596 (by decide) ?_
  refine lv_iadd hx hb d_L_law_597 ?_
  refine lv_topi (fun x_2 ex_2 => ?_)
  obtain rfl : x_2 = 2 := ex_2.trans (by decide +kernel)
  clear ex_2
  refine va_sld hx hb hX hbl hbA hS (by unfold vp_in; decide +kernel) d_L_law_598 ?_
  refine lv_aload_n hx hb d_L_law_599 rfl (lv_at hl 1 rfl) ?_
  have hPc := hP.sub (ws' := [(qK, .inr (0, [.ref qd, .ref qb, .ref qf, .ref qc, .ref qm, .ref qw, .ref qp, .int 0, .int (-1)])), (qp, .inr (4, [.int 0, .int 0, .int 0])), (qd, .inl (cD, 8, .inr (.inr (.inr (.inr (fun _ => none)))))), (qo, .inl (cO, 1, .inr (.inl ((fun _ => 0)))))]) [0, 5, 1, 9] rfl
  have hKc := hK.sub (tys' := [(cD, .object R_D), (cO, .long)]) [0, 4] rfl
  have hDc := hD.sub (ws' := [(qK, .inr (0, [.ref qd, .ref qb, .ref qf, .ref qc, .ref qm, .ref qw, .ref qp, .int 0, .int (-1)])), (qp, .inr (4, [.int 0, .int 0, .int 0])), (qd, .inl (cD, 8, .inr (.inr (.inr (.inr (fun _ => none)))))), (qo, .inl (cO, 1, .inr (.inl ((fun _ => 0)))))]) [0, 5, 1, 9] (by decide) rfl
  have hFc := va_free (wc := [(qK, .inr (0, [.ref qd, .ref qb, .ref qf, .ref qc, .ref qm, .ref qw, .ref qp, .int 0, .int (-1)])), (qp, .inr (4, [.int 0, .int 0, .int 0])), (qd, .inl (cD, 8, .inr (.inr (.inr (.inr (fun _ => none)))))), (qo, .inl (cO, 1, .inr (.inl ((fun _ => 0)))))]) hD hS hA [0, 5, 1, 9] rfl
  refine va_calli (va_runSW (As := [.ref qK, .int (xs (Int32.toNatClampNeg 1)), .int (xs (Int32.toNatClampNeg 2)), .ref qo]) (rest := []) ⟨hx, hb, hml, hown, hw0⟩ (w_trim l dC dI H.size qK (.ref qb) (.ref qf) (.ref qc) (.ref qm) (.ref qw) 0 (-1) qp 0 0 qd cD (xs (Int32.toNatClampNeg 1)) (xs (Int32.toNatClampNeg 2)) qo cO (fun _ => 0)) (csw_of 4 hw0 386 387 388 335 rfl rfl rfl rfl rfl rfl (by decide +kernel) ⟨by decide +kernel, by decide +kernel⟩) (prS_E hPc hKc hDc hN) rfl rfl hl.1 rfl (lv_room (Nat.le_of_ble_eq_true rfl)) d_L_law_600 ⟨by decide +kernel, by decide +kernel⟩) hS (fun q _ h => hFc q h) hFc (fun r_3 u t H1 locs ht hvm hw hB hz1 hk1 hS => ?_)
  obtain ⟨g_4, hu_5, hP1, hK1, hD1⟩ := hB
  rw [ht] at hP1
  have hK1 := va_K.moved hvm.symm hK1
  try dsimp only at hw
  obtain ⟨hP, hD⟩ := va_join (wr := [(qb, .inr (1, [.ref qy, .int 0])), (qy, .inl (cB, 256, .inl (fun _ => 0))), (qf, .inr (1, [.ref qz, .int 0])), (qM, .inr (7, [.int 0, .int 0, .int (-1), .ref q_buffer, .int 0, .int 0, .ref q_gone, .ref q_first, .ref q_many, .ref q_lengths, .ref q_authors, .ref q_sums, .ref q_row, .ref q_made, .int 0, .ref q_base, .int 0, .ref q_text, .int (-1), .int (-1), .ref q_other, .int 0, .ref q_piece, .int 0, .int 0, .int 0, .int 0])), (q_buffer, .inl (cB2, 256, .inl (fun _ => 0))), (q_lengths, .inl (cS, 512, .inl (gL)))]) (w1 := [(qo, .inl (cO, 1, .inr (.inl (g_4))))]) hP hD [0, 5, 1, 9] [2, 3, 4, 6, 7, 8] rfl rfl (by decide) (by decide) hk1 hFc hP1 hD1
  generalize H1 = H at hP hS ⊢
  replace hP : va_P (dC, dI) vwCl [(qb, .inr (1, [.ref qy, .int 0])), (qy, .inl (cB, 256, .inl (fun _ => 0))), (qf, .inr (1, [.ref qz, .int 0])), (qM, .inr (7, [.int 0, .int 0, .int (-1), .ref q_buffer, .int 0, .int 0, .ref q_gone, .ref q_first, .ref q_many, .ref q_lengths, .ref q_authors, .ref q_sums, .ref q_row, .ref q_made, .int 0, .ref q_base, .int 0, .ref q_text, .int (-1), .int (-1), .ref q_other, .int 0, .ref q_piece, .int 0, .int 0, .int 0, .int 0])), (q_buffer, .inl (cB2, 256, .inl (fun _ => 0))), (q_lengths, .inl (cS, 512, .inl (gL))), (qo, .inl (cO, 1, .inr (.inl (g_4))))] H := hP
  replace hD : va_D (fun q : Nat => s.heap.size ≤ q) [(qb, .inr (1, [.ref qy, .int 0])), (qy, .inl (cB, 256, .inl (fun _ => 0))), (qf, .inr (1, [.ref qz, .int 0])), (qM, .inr (7, [.int 0, .int 0, .int (-1), .ref q_buffer, .int 0, .int 0, .ref q_gone, .ref q_first, .ref q_many, .ref q_lengths, .ref q_authors, .ref q_sums, .ref q_row, .ref q_made, .int 0, .ref q_base, .int 0, .ref q_text, .int (-1), .int (-1), .ref q_other, .int 0, .ref q_piece, .int 0, .int 0, .int 0, .int 0])), (q_buffer, .inl (cB2, 256, .inl (fun _ => 0))), (q_lengths, .inl (cS, 512, .inl (gL))), (qo, .inl (cO, 1, .inr (.inl (g_4))))] := hD
  replace hK : va_K (dC, dI) vwCl [(cD, .object R_D), (cB, .byte), (cB2, .byte), (cS, .short), (cO, .long)] s := hK
  obtain rfl : r_3 = 0 := hw
  refine lv_istore (lv' := [(5, .int 0), (4, .int 0), (3, .ref qo), (2, .ref qM), (1, .ref qK), (0, .ref b)]) hx hb d_L_law_603 hl (by decide) rfl (fun ls hl => ?_)
  refine lv_aload_n hx hb d_L_law_605 rfl (lv_at hl 3 rfl) ?_
  refine lv_aload_n hx hb d_L_law_606 rfl (lv_at hl 5 rfl) ?_
  refine lv_iload hx hb d_L_law_607 (lv_at hl 1 rfl) ?_
  refine lv_iconst (v := 1) hx hb d_L_law_609 (by decide) ?_
  refine lv_iadd hx hb d_L_law_610 ?_
  refine lv_topi (fun x_6 ex_6 => ?_)
  obtain rfl : x_6 = 1 := ex_6.trans (by decide +kernel)
  clear ex_6
  refine va_sld hx hb hX hbl hbA hS (by unfold vp_in; decide +kernel) d_L_law_611 ?_
  refine lv_aload_n hx hb d_L_law_612 rfl (lv_at hl 5 rfl) ?_
  refine lv_iload hx hb d_L_law_613 (lv_at hl 1 rfl) ?_
  refine lv_iconst (v := 2) hx hb d_L_law_615 (by decide) ?_
  refine lv_iadd hx hb d_L_law_616 ?_
  refine lv_topi (fun x_7 ex_7 => ?_)
  obtain rfl : x_7 = 2 := ex_7.trans (by decide +kernel)
  clear ex_7
  refine va_sld hx hb hX hbl hbA hS (by unfold vp_in; decide +kernel) d_L_law_617 ?_
  have hPc := hP.sub (ws' := [(qM, .inr (7, [.int 0, .int 0, .int (-1), .ref q_buffer, .int 0, .int 0, .ref q_gone, .ref q_first, .ref q_many, .ref q_lengths, .ref q_authors, .ref q_sums, .ref q_row, .ref q_made, .int 0, .ref q_base, .int 0, .ref q_text, .int (-1), .int (-1), .ref q_other, .int 0, .ref q_piece, .int 0, .int 0, .int 0, .int 0]))]) [3] rfl
  have hKc := hK.sub (tys' := []) [] rfl
  have hDc := hD.sub (ws' := [(qM, .inr (7, [.int 0, .int 0, .int (-1), .ref q_buffer, .int 0, .int 0, .ref q_gone, .ref q_first, .ref q_many, .ref q_lengths, .ref q_authors, .ref q_sums, .ref q_row, .ref q_made, .int 0, .ref q_base, .int 0, .ref q_text, .int (-1), .int (-1), .ref q_other, .int 0, .ref q_piece, .int 0, .int 0, .int 0, .int 0]))]) [3] (by decide) rfl
  have hFc := va_free (wc := [(qM, .inr (7, [.int 0, .int 0, .int (-1), .ref q_buffer, .int 0, .int 0, .ref q_gone, .ref q_first, .ref q_many, .ref q_lengths, .ref q_authors, .ref q_sums, .ref q_row, .ref q_made, .int 0, .ref q_base, .int 0, .ref q_text, .int (-1), .int (-1), .ref q_other, .int 0, .ref q_piece, .int 0, .int 0, .int 0, .int 0]))]) hD hS hA [3] rfl
  refine va_calli (va_runV (As := [.int (xs (Int32.toNatClampNeg 1)), .int (xs (Int32.toNatClampNeg 2))]) (rest := []) ⟨hx, hb, hml, hown, hw0⟩ (m_trim l dC dI H.size qM 0 (-1) (.ref q_buffer) 0 (.ref q_gone) (.ref q_first) (.ref q_many) (.ref q_lengths) (.ref q_authors) (.ref q_sums) (.ref q_row) (.ref q_made) 0 (.ref q_base) 0 (.ref q_text) (-1) (-1) (.ref q_other) 0 (.ref q_piece) 0 0 0 0 (xs (Int32.toNatClampNeg 1)) (xs (Int32.toNatClampNeg 2))) (cwV 2 hw0 (gd_V 389 390 391 173 392 rfl rfl rfl rfl rfl) rfl rfl rfl (by decide +kernel) ⟨by decide +kernel, by decide +kernel⟩) (prV_E hPc hKc hDc hN (va_recv hKc hPc (ci := 7) (q0 := 0) rfl rfl)) rfl rfl hl.1 rfl (lv_room (Nat.le_of_ble_eq_true rfl)) d_L_law_618 ⟨by decide +kernel, by decide +kernel⟩) hS (fun q _ h => hFc q h) hFc (fun r_8 u t H1 locs ht hvm hw hB hz1 hk1 hS => ?_)
  obtain ⟨hP1, hK1, hD1⟩ := hB
  rw [ht] at hP1
  have hK1 := va_K.moved hvm.symm hK1
  try dsimp only at hw
  obtain ⟨hP, hD⟩ := va_join (wr := [(qb, .inr (1, [.ref qy, .int 0])), (qy, .inl (cB, 256, .inl (fun _ => 0))), (qf, .inr (1, [.ref qz, .int 0])), (q_buffer, .inl (cB2, 256, .inl (fun _ => 0))), (q_lengths, .inl (cS, 512, .inl (gL))), (qo, .inl (cO, 1, .inr (.inl (g_4))))]) (w1 := [(qM, .inr (7, [.int 0, .int 0, .int (-1), .ref q_buffer, .int 0, .int 0, .ref q_gone, .ref q_first, .ref q_many, .ref q_lengths, .ref q_authors, .ref q_sums, .ref q_row, .ref q_made, .int 0, .ref q_base, .int 0, .ref q_text, .int (-1), .int (-1), .ref q_other, .int 0, .ref q_piece, .int 0, .int 0, .int 0, .int 0]))]) hP hD [3] [0, 1, 2, 4, 5, 6] rfl rfl (by decide) (by decide) hk1 hFc hP1 hD1
  generalize H1 = H at hP hS ⊢
  replace hP : va_P (dC, dI) vwCl [(qb, .inr (1, [.ref qy, .int 0])), (qy, .inl (cB, 256, .inl (fun _ => 0))), (qf, .inr (1, [.ref qz, .int 0])), (q_buffer, .inl (cB2, 256, .inl (fun _ => 0))), (q_lengths, .inl (cS, 512, .inl (gL))), (qo, .inl (cO, 1, .inr (.inl (g_4)))), (qM, .inr (7, [.int 0, .int 0, .int (-1), .ref q_buffer, .int 0, .int 0, .ref q_gone, .ref q_first, .ref q_many, .ref q_lengths, .ref q_authors, .ref q_sums, .ref q_row, .ref q_made, .int 0, .ref q_base, .int 0, .ref q_text, .int (-1), .int (-1), .ref q_other, .int 0, .ref q_piece, .int 0, .int 0, .int 0, .int 0]))] H := hP
  replace hD : va_D (fun q : Nat => s.heap.size ≤ q) [(qb, .inr (1, [.ref qy, .int 0])), (qy, .inl (cB, 256, .inl (fun _ => 0))), (qf, .inr (1, [.ref qz, .int 0])), (q_buffer, .inl (cB2, 256, .inl (fun _ => 0))), (q_lengths, .inl (cS, 512, .inl (gL))), (qo, .inl (cO, 1, .inr (.inl (g_4)))), (qM, .inr (7, [.int 0, .int 0, .int (-1), .ref q_buffer, .int 0, .int 0, .ref q_gone, .ref q_first, .ref q_many, .ref q_lengths, .ref q_authors, .ref q_sums, .ref q_row, .ref q_made, .int 0, .ref q_base, .int 0, .ref q_text, .int (-1), .int (-1), .ref q_other, .int 0, .ref q_piece, .int 0, .int 0, .int 0, .int 0]))] := hD
  replace hK : va_K (dC, dI) vwCl [(cD, .object R_D), (cB, .byte), (cB2, .byte), (cS, .short), (cO, .long)] s := hK
  obtain rfl : r_8 = 0 := hw
  refine lv_istore (lv' := [(6, .int 0), (5, .int 0), (4, .int 0), (3, .ref qo), (2, .ref qM), (1, .ref qK), (0, .ref b)]) hx hb d_L_law_621 hl (by decide) rfl (fun ls hl => ?_)
  refine lv_aload_n hx hb d_L_law_623 rfl (lv_at hl 4 rfl) ?_
  have hPc := hP.sub (ws' := [(qM, .inr (7, [.int 0, .int 0, .int (-1), .ref q_buffer, .int 0, .int 0, .ref q_gone, .ref q_first, .ref q_many, .ref q_lengths, .ref q_authors, .ref q_sums, .ref q_row, .ref q_made, .int 0, .ref q_base, .int 0, .ref q_text, .int (-1), .int (-1), .ref q_other, .int 0, .ref q_piece, .int 0, .int 0, .int 0, .int 0]))]) [6] rfl
  have hKc := hK.sub (tys' := []) [] rfl
  refine ps_i (va_runV (As := []) (rest := []) ⟨hx, hb, hml, hown, hw0⟩ (m_thrown l dC dI qM 0 0 (-1) (.ref q_buffer) 0 0 (.ref q_gone) (.ref q_first) (.ref q_many) (.ref q_lengths) (.ref q_authors) (.ref q_sums) (.ref q_row) (.ref q_made) 0 (.ref q_base) 0 (.ref q_text) (-1) (-1) (.ref q_other) 0 (.ref q_piece) 0 0 0 0) (cwV 0 hw0 (gd_V 340 341 342 173 343 rfl rfl rfl rfl rfl) rfl rfl rfl (by decide +kernel) ⟨by decide +kernel, by decide +kernel⟩) (prV_R hPc hKc hN (va_recv hKc hPc (ci := 7) (q0 := 0) rfl rfl)) rfl rfl hl.1 rfl (lv_room (Nat.le_of_ble_eq_true rfl)) d_L_law_624 ⟨by decide +kernel, by decide +kernel⟩) (fun r_10 hr_10 => ?_)
  obtain rfl : r_10 = 0 := hr_10
  refine lv_iload hx hb d_L_law_627 (lv_at hl 1 rfl) ?_
  refine lv_icmp_eq (tgt := 634) hx hb d_L_law_629 (by decide) (fun _ => ?_) (fun h9 => absurd h9 (by decide +kernel))
  refine lv_iload hx hb d_L_law_634 (lv_at hl 1 rfl) ?_
  refine lv_if_ne (tgt := 658) hx hb d_L_law_636 (by decide) (fun h9 => absurd h9 (by decide +kernel)) (fun _ => ?_)
  refine lv_aload_n hx hb d_L_law_639 rfl (lv_at hl 3 rfl) ?_
  refine lv_iconst (v := 0) hx hb d_L_law_640 (by decide) ?_
  refine va_lald hx hb hK hP 5 4 rfl rfl (by unfold vp_in; decide +kernel) d_L_law_641 ?_
  refine lv_topl (fun x_11 ex_11 => ?_)
  obtain rfl : x_11 = 0 := ex_11.trans (by rw [sb_cl0]; exact hu_5)
  clear ex_11
  refine lv_iload hx hb d_L_law_642 (lv_at hl 0 rfl) ?_
  refine lv_if_eq (tgt := 651) hx hb d_L_law_644 (by decide) (fun _ => ?_) (fun h9 => absurd h9 (by decide +kernel))
  refine lv_lconst (v := 0) hx hb d_L_law_651 (by decide) ?_
  refine W.lcmp hx hb d_L_law_652 ?_
  refine lv_topi (fun x_12 ex_12 => ?_)
  obtain rfl : x_12 = 0 := ex_12.trans (by decide +kernel)
  clear ex_12
  refine lv_if_eq (tgt := 658) hx hb d_L_law_653 (by decide) (fun _ => ?_) (fun h9 => absurd h9 (by decide +kernel))
  refine lv_goto (tgt := 1332) hx hb d_L_law_658 (by decide) ?_
  refine W.widen (k := 600002) (n := 7302232) (by decide +kernel) (by decide +kernel) ?_
  exact law_end l hl9 C0 _ _ hS ls (lv_sub hl [2, 6] rfl)
