set_option maxHeartbeats 4000000 in
set_option maxRecDepth 100000 in
theorem law_case_8 {p : Program} {e : Env} {s : State} {m : MethodId} {below : List Frame} {meth : Method} {c : Code} (l : Launch) (hl9 : l.stackTraces = false) {b : Nat} {xs : Nat → Int32} (C0 : lw_At p s m meth c b 6 xs) {dC : Nat → ClassId} {dI : Nat → Nat → Nat} (qK qd qb qy qf qz qc qm qw qp qM q_buffer q_gone q_first q_many q_lengths q_authors q_sums q_row q_made q_base q_text q_other q_piece qo : Nat) (cD cB cB2 cS cO : ClassId) (gL : Nat → Int32) (hgL : ∀ i, i < 512 → gL i = (-1))  (hN : nw_ok s) (hTw : tw_ok s) (hK : va_K (dC, dI) vwCl [(cD, .object R_D), (cB, .byte), (cB2, .byte), (cS, .short), (cO, .long)] s) (H : Heap) (locs : List Loc) (hP : va_P (dC, dI) vwCl [(qK, .inr (0, [.ref qd, .ref qb, .ref qf, .ref qc, .ref qm, .ref qw, .ref qp, .int 0, .int (-1)])), (qd, .inl (cD, 8, .inr (.inr (.inr (.inr (fun _ => none)))))), (qb, .inr (1, [.ref qy, .int 0])), (qy, .inl (cB, 256, .inl (fun _ => 0))), (qf, .inr (1, [.ref qz, .int 0])), (qp, .inr (4, [.int 0, .int 0, .int 0])), (qM, .inr (7, [.int 0, .int 0, .int (-1), .ref q_buffer, .int 0, .int 0, .ref q_gone, .ref q_first, .ref q_many, .ref q_lengths, .ref q_authors, .ref q_sums, .ref q_row, .ref q_made, .int 0, .ref q_base, .int 0, .ref q_text, .int (-1), .int (-1), .ref q_other, .int 0, .ref q_piece, .int 0, .int 0, .int 0, .int 0])), (q_buffer, .inl (cB2, 256, .inl (fun _ => 0))), (q_lengths, .inl (cS, 512, .inl (gL))), (qo, .inl (cO, 1, .inr (.inl (fun _ => 0))))] H) (hD : va_D (fun q : Nat => s.heap.size ≤ q) [(qK, .inr (0, [.ref qd, .ref qb, .ref qf, .ref qc, .ref qm, .ref qw, .ref qp, .int 0, .int (-1)])), (qd, .inl (cD, 8, .inr (.inr (.inr (.inr (fun _ => none)))))), (qb, .inr (1, [.ref qy, .int 0])), (qy, .inl (cB, 256, .inl (fun _ => 0))), (qf, .inr (1, [.ref qz, .int 0])), (qp, .inr (4, [.int 0, .int 0, .int 0])), (qM, .inr (7, [.int 0, .int 0, .int (-1), .ref q_buffer, .int 0, .int 0, .ref q_gone, .ref q_first, .ref q_many, .ref q_lengths, .ref q_authors, .ref q_sums, .ref q_row, .ref q_made, .int 0, .ref q_base, .int 0, .ref q_text, .int (-1), .int (-1), .ref q_other, .int 0, .ref q_piece, .int 0, .int 0, .int 0, .int 0])), (q_buffer, .inl (cB2, 256, .inl (fun _ => 0))), (q_lengths, .inl (cS, 512, .inl (gL))), (qo, .inl (cO, 1, .inr (.inl (fun _ => 0))))]) (hS : va_S (fun q : Nat => s.heap.size ≤ q) s.heap H locs) (ls : Array Slot) (hl : lv_has ls 7 [(4, .int 0), (3, .ref qo), (2, .ref qM), (1, .ref qK), (0, .ref b)]) : W p l e room_1 s m #[Value.ref b] below meth c H locs 32 26000 (lw_Z below #[Value.ref b] s) (F0 m 661 ls []) := by
  obtain ⟨hx, hb, hr, hml, hown, hts, hX, hbl, hlocks, hgv⟩ := id C0
  have hw0 : ∀ w ∈ w0, w.before #[Value.ref b] s = true := fun w h => hts w (w0_ok w h).1
  have hA : ∀ q : Nat, s.heap.size ≤ q → (fun q : Nat => s.heap.size ≤ q) q := fun _ h => h
  have hbA : ¬ (fun q : Nat => s.heap.size ≤ q) b := Nat.not_le.mpr hbl
  refine lv_aload_n hx hb d_L_law_661 rfl (lv_at hl 3 rfl) ?_
  refine lv_aload_n hx hb d_L_law_662 rfl (lv_at hl 4 rfl) ?_
  refine lv_iload hx hb d_L_law_663 (lv_at hl 0 rfl) ?_
  refine lv_iconst (v := 1) hx hb d_L_law_665 (by decide) ?_
  refine lv_iadd hx hb d_L_law_666 ?_
  refine lv_topi (fun x_1 ex_1 => ?_)
  obtain rfl : x_1 = 1 := ex_1.trans (by decide +kernel)
  clear ex_1
  refine va_sld hx hb hX hbl hbA hS (by unfold vp_in; decide +kernel) d_L_law_667 ?_
  refine lv_aload_n hx hb d_L_law_668 rfl (lv_at hl 1 rfl) ?_
  have hPc := hP.sub (ws' := [(qK, .inr (0, [.ref qd, .ref qb, .ref qf, .ref qc, .ref qm, .ref qw, .ref qp, .int 0, .int (-1)])), (qp, .inr (4, [.int 0, .int 0, .int 0])), (qd, .inl (cD, 8, .inr (.inr (.inr (.inr (fun _ => none)))))), (qo, .inl (cO, 1, .inr (.inl ((fun _ => 0)))))]) [0, 5, 1, 9] rfl
  have hKc := hK.sub (tys' := [(cD, .object R_D), (cO, .long)]) [0, 4] rfl
  have hDc := hD.sub (ws' := [(qK, .inr (0, [.ref qd, .ref qb, .ref qf, .ref qc, .ref qm, .ref qw, .ref qp, .int 0, .int (-1)])), (qp, .inr (4, [.int 0, .int 0, .int 0])), (qd, .inl (cD, 8, .inr (.inr (.inr (.inr (fun _ => none)))))), (qo, .inl (cO, 1, .inr (.inl ((fun _ => 0)))))]) [0, 5, 1, 9] (by decide) rfl
  have hFc := va_free (wc := [(qK, .inr (0, [.ref qd, .ref qb, .ref qf, .ref qc, .ref qm, .ref qw, .ref qp, .int 0, .int (-1)])), (qp, .inr (4, [.int 0, .int 0, .int 0])), (qd, .inl (cD, 8, .inr (.inr (.inr (.inr (fun _ => none)))))), (qo, .inl (cO, 1, .inr (.inl ((fun _ => 0)))))]) hD hS hA [0, 5, 1, 9] rfl
  refine va_calli (va_runSW (As := [.ref qK, .int (xs (Int32.toNatClampNeg 1)), .ref qo]) (rest := []) ⟨hx, hb, hml, hown, hw0⟩ (w_dropDocument l dC dI H.size qK (.ref qb) (.ref qf) (.ref qc) (.ref qm) (.ref qw) 0 (-1) qp 0 0 qd cD (xs (Int32.toNatClampNeg 1)) qo cO (fun _ => 0)) (csw_of 3 hw0 393 394 395 335 rfl rfl rfl rfl rfl rfl (by decide +kernel) ⟨by decide +kernel, by decide +kernel⟩) (prS_E hPc hKc hDc hN) rfl rfl hl.1 rfl (lv_room (Nat.le_of_ble_eq_true rfl)) d_L_law_669 ⟨by decide +kernel, by decide +kernel⟩) hS (fun q _ h => hFc q h) hFc (fun r_2 u t H1 locs ht hvm hw hB hz1 hk1 hS => ?_)
  obtain ⟨g_3, hu_4, hP1, hK1, hD1⟩ := hB
  rw [ht] at hP1
  have hK1 := va_K.moved hvm.symm hK1
  try dsimp only at hw
  obtain ⟨hP, hD⟩ := va_join (wr := [(qb, .inr (1, [.ref qy, .int 0])), (qy, .inl (cB, 256, .inl (fun _ => 0))), (qf, .inr (1, [.ref qz, .int 0])), (qM, .inr (7, [.int 0, .int 0, .int (-1), .ref q_buffer, .int 0, .int 0, .ref q_gone, .ref q_first, .ref q_many, .ref q_lengths, .ref q_authors, .ref q_sums, .ref q_row, .ref q_made, .int 0, .ref q_base, .int 0, .ref q_text, .int (-1), .int (-1), .ref q_other, .int 0, .ref q_piece, .int 0, .int 0, .int 0, .int 0])), (q_buffer, .inl (cB2, 256, .inl (fun _ => 0))), (q_lengths, .inl (cS, 512, .inl (gL)))]) (w1 := [(qo, .inl (cO, 1, .inr (.inl (g_3))))]) hP hD [0, 5, 1, 9] [2, 3, 4, 6, 7, 8] rfl rfl (by decide) (by decide) hk1 hFc hP1 hD1
  generalize H1 = H at hP hS ⊢
  replace hP : va_P (dC, dI) vwCl [(qb, .inr (1, [.ref qy, .int 0])), (qy, .inl (cB, 256, .inl (fun _ => 0))), (qf, .inr (1, [.ref qz, .int 0])), (qM, .inr (7, [.int 0, .int 0, .int (-1), .ref q_buffer, .int 0, .int 0, .ref q_gone, .ref q_first, .ref q_many, .ref q_lengths, .ref q_authors, .ref q_sums, .ref q_row, .ref q_made, .int 0, .ref q_base, .int 0, .ref q_text, .int (-1), .int (-1), .ref q_other, .int 0, .ref q_piece, .int 0, .int 0, .int 0, .int 0])), (q_buffer, .inl (cB2, 256, .inl (fun _ => 0))), (q_lengths, .inl (cS, 512, .inl (gL))), (qo, .inl (cO, 1, .inr (.inl (g_3))))] H := hP
  replace hD : va_D (fun q : Nat => s.heap.size ≤ q) [(qb, .inr (1, [.ref qy, .int 0])), (qy, .inl (cB, 256, .inl (fun _ => 0))), (qf, .inr (1, [.ref qz, .int 0])), (qM, .inr (7, [.int 0, .int 0, .int (-1), .ref q_buffer, .int 0, .int 0, .ref q_gone, .ref q_first, .ref q_many, .ref q_lengths, .ref q_authors, .ref q_sums, .ref q_row, .ref q_made, .int 0, .ref q_base, .int 0, .ref q_text, .int (-1), .int (-1), .ref q_other, .int 0, .ref q_piece, .int 0, .int 0, .int 0, .int 0])), (q_buffer, .inl (cB2, 256, .inl (fun _ => 0))), (q_lengths, .inl (cS, 512, .inl (gL))), (qo, .inl (cO, 1, .inr (.inl (g_3))))] := hD
  replace hK : va_K (dC, dI) vwCl [(cD, .object R_D), (cB, .byte), (cB2, .byte), (cS, .short), (cO, .long)] s := hK
  obtain rfl : r_2 = 0 := hw
  refine lv_istore (lv' := [(5, .int 0), (4, .int 0), (3, .ref qo), (2, .ref qM), (1, .ref qK), (0, .ref b)]) hx hb d_L_law_672 hl (by decide) rfl (fun ls hl => ?_)
  refine lv_aload_n hx hb d_L_law_674 rfl (lv_at hl 3 rfl) ?_
  refine lv_aload_n hx hb d_L_law_675 rfl (lv_at hl 5 rfl) ?_
  refine lv_iload hx hb d_L_law_676 (lv_at hl 1 rfl) ?_
  refine lv_iconst (v := 1) hx hb d_L_law_678 (by decide) ?_
  refine lv_iadd hx hb d_L_law_679 ?_
  refine lv_topi (fun x_5 ex_5 => ?_)
  obtain rfl : x_5 = 1 := ex_5.trans (by decide +kernel)
  clear ex_5
  refine va_sld hx hb hX hbl hbA hS (by unfold vp_in; decide +kernel) d_L_law_680 ?_
  have hPc := hP.sub (ws' := [(qM, .inr (7, [.int 0, .int 0, .int (-1), .ref q_buffer, .int 0, .int 0, .ref q_gone, .ref q_first, .ref q_many, .ref q_lengths, .ref q_authors, .ref q_sums, .ref q_row, .ref q_made, .int 0, .ref q_base, .int 0, .ref q_text, .int (-1), .int (-1), .ref q_other, .int 0, .ref q_piece, .int 0, .int 0, .int 0, .int 0]))]) [3] rfl
  have hKc := hK.sub (tys' := []) [] rfl
  have hDc := hD.sub (ws' := [(qM, .inr (7, [.int 0, .int 0, .int (-1), .ref q_buffer, .int 0, .int 0, .ref q_gone, .ref q_first, .ref q_many, .ref q_lengths, .ref q_authors, .ref q_sums, .ref q_row, .ref q_made, .int 0, .ref q_base, .int 0, .ref q_text, .int (-1), .int (-1), .ref q_other, .int 0, .ref q_piece, .int 0, .int 0, .int 0, .int 0]))]) [3] (by decide) rfl
  have hFc := va_free (wc := [(qM, .inr (7, [.int 0, .int 0, .int (-1), .ref q_buffer, .int 0, .int 0, .ref q_gone, .ref q_first, .ref q_many, .ref q_lengths, .ref q_authors, .ref q_sums, .ref q_row, .ref q_made, .int 0, .ref q_base, .int 0, .ref q_text, .int (-1), .int (-1), .ref q_other, .int 0, .ref q_piece, .int 0, .int 0, .int 0, .int 0]))]) hD hS hA [3] rfl
  refine va_calli (va_runV (As := [.int (xs (Int32.toNatClampNeg 1))]) (rest := []) ⟨hx, hb, hml, hown, hw0⟩ (m_dropDocument l dC dI H.size qM 0 (-1) (.ref q_buffer) 0 (.ref q_gone) (.ref q_first) (.ref q_many) (.ref q_lengths) (.ref q_authors) (.ref q_sums) (.ref q_row) (.ref q_made) 0 (.ref q_base) 0 (.ref q_text) (-1) (-1) (.ref q_other) 0 (.ref q_piece) 0 0 0 0 (xs (Int32.toNatClampNeg 1))) (cwV 1 hw0 (gd_V 396 397 398 173 399 rfl rfl rfl rfl rfl) rfl rfl rfl (by decide +kernel) ⟨by decide +kernel, by decide +kernel⟩) (prV_E hPc hKc hDc hN (va_recv hKc hPc (ci := 7) (q0 := 0) rfl rfl)) rfl rfl hl.1 rfl (lv_room (Nat.le_of_ble_eq_true rfl)) d_L_law_681 ⟨by decide +kernel, by decide +kernel⟩) hS (fun q _ h => hFc q h) hFc (fun r_6 u t H1 locs ht hvm hw hB hz1 hk1 hS => ?_)
  obtain ⟨hP1, hK1, hD1⟩ := hB
  rw [ht] at hP1
  have hK1 := va_K.moved hvm.symm hK1
  try dsimp only at hw
  obtain ⟨hP, hD⟩ := va_join (wr := [(qb, .inr (1, [.ref qy, .int 0])), (qy, .inl (cB, 256, .inl (fun _ => 0))), (qf, .inr (1, [.ref qz, .int 0])), (q_buffer, .inl (cB2, 256, .inl (fun _ => 0))), (q_lengths, .inl (cS, 512, .inl (gL))), (qo, .inl (cO, 1, .inr (.inl (g_3))))]) (w1 := [(qM, .inr (7, [.int 0, .int 0, .int (-1), .ref q_buffer, .int 0, .int 0, .ref q_gone, .ref q_first, .ref q_many, .ref q_lengths, .ref q_authors, .ref q_sums, .ref q_row, .ref q_made, .int 0, .ref q_base, .int 0, .ref q_text, .int (-1), .int (-1), .ref q_other, .int 0, .ref q_piece, .int 0, .int 0, .int 0, .int 0]))]) hP hD [3] [0, 1, 2, 4, 5, 6] rfl rfl (by decide) (by decide) hk1 hFc hP1 hD1
  generalize H1 = H at hP hS ⊢
  replace hP : va_P (dC, dI) vwCl [(qb, .inr (1, [.ref qy, .int 0])), (qy, .inl (cB, 256, .inl (fun _ => 0))), (qf, .inr (1, [.ref qz, .int 0])), (q_buffer, .inl (cB2, 256, .inl (fun _ => 0))), (q_lengths, .inl (cS, 512, .inl (gL))), (qo, .inl (cO, 1, .inr (.inl (g_3)))), (qM, .inr (7, [.int 0, .int 0, .int (-1), .ref q_buffer, .int 0, .int 0, .ref q_gone, .ref q_first, .ref q_many, .ref q_lengths, .ref q_authors, .ref q_sums, .ref q_row, .ref q_made, .int 0, .ref q_base, .int 0, .ref q_text, .int (-1), .int (-1), .ref q_other, .int 0, .ref q_piece, .int 0, .int 0, .int 0, .int 0]))] H := hP
  replace hD : va_D (fun q : Nat => s.heap.size ≤ q) [(qb, .inr (1, [.ref qy, .int 0])), (qy, .inl (cB, 256, .inl (fun _ => 0))), (qf, .inr (1, [.ref qz, .int 0])), (q_buffer, .inl (cB2, 256, .inl (fun _ => 0))), (q_lengths, .inl (cS, 512, .inl (gL))), (qo, .inl (cO, 1, .inr (.inl (g_3)))), (qM, .inr (7, [.int 0, .int 0, .int (-1), .ref q_buffer, .int 0, .int 0, .ref q_gone, .ref q_first, .ref q_many, .ref q_lengths, .ref q_authors, .ref q_sums, .ref q_row, .ref q_made, .int 0, .ref q_base, .int 0, .ref q_text, .int (-1), .int (-1), .ref q_other, .int 0, .ref q_piece, .int 0, .int 0, .int 0, .int 0]))] := hD
  replace hK : va_K (dC, dI) vwCl [(cD, .object R_D), (cB, .byte), (cB2, .byte), (cS, .short), (cO, .long)] s := hK
  obtain rfl : r_6 = 0 := hw
  refine lv_istore (lv' := [(6, .int 0), (5, .int 0), (4, .int 0), (3, .ref qo), (2, .ref qM), (1, .ref qK), (0, .ref b)]) hx hb d_L_law_684 hl (by decide) rfl (fun ls hl => ?_)
  refine lv_aload_n hx hb d_L_law_686 rfl (lv_at hl 4 rfl) ?_
  have hPc := hP.sub (ws' := [(qM, .inr (7, [.int 0, .int 0, .int (-1), .ref q_buffer, .int 0, .int 0, .ref q_gone, .ref q_first, .ref q_many, .ref q_lengths, .ref q_authors, .ref q_sums, .ref q_row, .ref q_made, .int 0, .ref q_base, .int 0, .ref q_text, .int (-1), .int (-1), .ref q_other, .int 0, .ref q_piece, .int 0, .int 0, .int 0, .int 0]))]) [6] rfl
  have hKc := hK.sub (tys' := []) [] rfl
  refine ps_i (va_runV (As := []) (rest := []) ⟨hx, hb, hml, hown, hw0⟩ (m_thrown l dC dI qM 0 0 (-1) (.ref q_buffer) 0 0 (.ref q_gone) (.ref q_first) (.ref q_many) (.ref q_lengths) (.ref q_authors) (.ref q_sums) (.ref q_row) (.ref q_made) 0 (.ref q_base) 0 (.ref q_text) (-1) (-1) (.ref q_other) 0 (.ref q_piece) 0 0 0 0) (cwV 0 hw0 (gd_V 340 341 342 173 343 rfl rfl rfl rfl rfl) rfl rfl rfl (by decide +kernel) ⟨by decide +kernel, by decide +kernel⟩) (prV_R hPc hKc hN (va_recv hKc hPc (ci := 7) (q0 := 0) rfl rfl)) rfl rfl hl.1 rfl (lv_room (Nat.le_of_ble_eq_true rfl)) d_L_law_687 ⟨by decide +kernel, by decide +kernel⟩) (fun r_8 hr_8 => ?_)
  obtain rfl : r_8 = 0 := hr_8
  refine lv_iload hx hb d_L_law_690 (lv_at hl 1 rfl) ?_
  refine lv_icmp_eq (tgt := 697) hx hb d_L_law_692 (by decide) (fun _ => ?_) (fun h9 => absurd h9 (by decide +kernel))
  refine lv_iload hx hb d_L_law_697 (lv_at hl 1 rfl) ?_
  refine lv_if_ne (tgt := 721) hx hb d_L_law_699 (by decide) (fun h9 => absurd h9 (by decide +kernel)) (fun _ => ?_)
  refine lv_aload_n hx hb d_L_law_702 rfl (lv_at hl 3 rfl) ?_
  refine lv_iconst (v := 0) hx hb d_L_law_703 (by decide) ?_
  refine va_lald hx hb hK hP 5 4 rfl rfl (by unfold vp_in; decide +kernel) d_L_law_704 ?_
  refine lv_topl (fun x_9 ex_9 => ?_)
  obtain rfl : x_9 = 0 := ex_9.trans (by rw [sb_cl0]; exact hu_4)
  clear ex_9
  refine lv_iload hx hb d_L_law_705 (lv_at hl 0 rfl) ?_
  refine lv_if_eq (tgt := 714) hx hb d_L_law_707 (by decide) (fun _ => ?_) (fun h9 => absurd h9 (by decide +kernel))
  refine lv_lconst (v := 0) hx hb d_L_law_714 (by decide) ?_
  refine W.lcmp hx hb d_L_law_715 ?_
  refine lv_topi (fun x_10 ex_10 => ?_)
  obtain rfl : x_10 = 0 := ex_10.trans (by decide +kernel)
  clear ex_10
  refine lv_if_eq (tgt := 721) hx hb d_L_law_716 (by decide) (fun _ => ?_) (fun h9 => absurd h9 (by decide +kernel))
  refine lv_goto (tgt := 1332) hx hb d_L_law_721 (by decide) ?_
  refine W.widen (k := 600002) (n := 7302232) (by decide +kernel) (by decide +kernel) ?_
  exact law_end l hl9 C0 _ _ hS ls (lv_sub hl [2, 6] rfl)
set_option maxHeartbeats 4000000 in
set_option maxRecDepth 100000 in
theorem law_case_9 {p : Program} {e : Env} {s : State} {m : MethodId} {below : List Frame} {meth : Method} {c : Code} (l : Launch) (hl9 : l.stackTraces = false) {b : Nat} {xs : Nat → Int32} (C0 : lw_At p s m meth c b 6 xs) {dC : Nat → ClassId} {dI : Nat → Nat → Nat} (qK qd qb qy qf qz qc qm qw qp qM q_buffer q_gone q_first q_many q_lengths q_authors q_sums q_row q_made q_base q_text q_other q_piece qo : Nat) (cD cB cB2 cS cO : ClassId) (gL : Nat → Int32) (hgL : ∀ i, i < 512 → gL i = (-1))  (hN : nw_ok s) (hTw : tw_ok s) (hK : va_K (dC, dI) vwCl [(cD, .object R_D), (cB, .byte), (cB2, .byte), (cS, .short), (cO, .long)] s) (H : Heap) (locs : List Loc) (hP : va_P (dC, dI) vwCl [(qK, .inr (0, [.ref qd, .ref qb, .ref qf, .ref qc, .ref qm, .ref qw, .ref qp, .int 0, .int (-1)])), (qd, .inl (cD, 8, .inr (.inr (.inr (.inr (fun _ => none)))))), (qb, .inr (1, [.ref qy, .int 0])), (qy, .inl (cB, 256, .inl (fun _ => 0))), (qf, .inr (1, [.ref qz, .int 0])), (qp, .inr (4, [.int 0, .int 0, .int 0])), (qM, .inr (7, [.int 0, .int 0, .int (-1), .ref q_buffer, .int 0, .int 0, .ref q_gone, .ref q_first, .ref q_many, .ref q_lengths, .ref q_authors, .ref q_sums, .ref q_row, .ref q_made, .int 0, .ref q_base, .int 0, .ref q_text, .int (-1), .int (-1), .ref q_other, .int 0, .ref q_piece, .int 0, .int 0, .int 0, .int 0])), (q_buffer, .inl (cB2, 256, .inl (fun _ => 0))), (q_lengths, .inl (cS, 512, .inl (gL))), (qo, .inl (cO, 1, .inr (.inl (fun _ => 0))))] H) (hD : va_D (fun q : Nat => s.heap.size ≤ q) [(qK, .inr (0, [.ref qd, .ref qb, .ref qf, .ref qc, .ref qm, .ref qw, .ref qp, .int 0, .int (-1)])), (qd, .inl (cD, 8, .inr (.inr (.inr (.inr (fun _ => none)))))), (qb, .inr (1, [.ref qy, .int 0])), (qy, .inl (cB, 256, .inl (fun _ => 0))), (qf, .inr (1, [.ref qz, .int 0])), (qp, .inr (4, [.int 0, .int 0, .int 0])), (qM, .inr (7, [.int 0, .int 0, .int (-1), .ref q_buffer, .int 0, .int 0, .ref q_gone, .ref q_first, .ref q_many, .ref q_lengths, .ref q_authors, .ref q_sums, .ref q_row, .ref q_made, .int 0, .ref q_base, .int 0, .ref q_text, .int (-1), .int (-1), .ref q_other, .int 0, .ref q_piece, .int 0, .int 0, .int 0, .int 0])), (q_buffer, .inl (cB2, 256, .inl (fun _ => 0))), (q_lengths, .inl (cS, 512, .inl (gL))), (qo, .inl (cO, 1, .inr (.inl (fun _ => 0))))]) (hS : va_S (fun q : Nat => s.heap.size ≤ q) s.heap H locs) (ls : Array Slot) (hl : lv_has ls 7 [(4, .int 0), (3, .ref qo), (2, .ref qM), (1, .ref qK), (0, .ref b)]) : W p l e room_1 s m #[Value.ref b] below meth c H locs 32 26000 (lw_Z below #[Value.ref b] s) (F0 m 724 ls []) := by
  obtain ⟨hx, hb, hr, hml, hown, hts, hX, hbl, hlocks, hgv⟩ := id C0
  have hw0 : ∀ w ∈ w0, w.before #[Value.ref b] s = true := fun w h => hts w (w0_ok w h).1
  have hA : ∀ q : Nat, s.heap.size ≤ q → (fun q : Nat => s.heap.size ≤ q) q := fun _ h => h
  have hbA : ¬ (fun q : Nat => s.heap.size ≤ q) b := Nat.not_le.mpr hbl
  refine lv_aload_n hx hb d_L_law_724 rfl (lv_at hl 3 rfl) ?_
  refine lv_aload_n hx hb d_L_law_725 rfl (lv_at hl 4 rfl) ?_
  refine lv_iload hx hb d_L_law_726 (lv_at hl 0 rfl) ?_
  refine lv_iconst (v := 1) hx hb d_L_law_728 (by decide) ?_
  refine lv_iadd hx hb d_L_law_729 ?_
  refine lv_topi (fun x_1 ex_1 => ?_)
  obtain rfl : x_1 = 1 := ex_1.trans (by decide +kernel)
  clear ex_1
  refine va_sld hx hb hX hbl hbA hS (by unfold vp_in; decide +kernel) d_L_law_730 ?_
  refine lv_aload_n hx hb d_L_law_731 rfl (lv_at hl 4 rfl) ?_
  refine lv_iload hx hb d_L_law_732 (lv_at hl 0 rfl) ?_
  refine lv_iconst (v := 2) hx hb d_L_law_734 (by decide) ?_
  refine lv_iadd hx hb d_L_law_735 ?_
  refine lv_topi (fun x_2 ex_2 => ?_)
  obtain rfl : x_2 = 2 := ex_2.trans (by decide +kernel)
  clear ex_2
  refine va_sld hx hb hX hbl hbA hS (by unfold vp_in; decide +kernel) d_L_law_736 ?_
  refine lv_aload_n hx hb d_L_law_737 rfl (lv_at hl 1 rfl) ?_
  have hPc := hP.sub (ws' := [(qK, .inr (0, [.ref qd, .ref qb, .ref qf, .ref qc, .ref qm, .ref qw, .ref qp, .int 0, .int (-1)])), (qp, .inr (4, [.int 0, .int 0, .int 0])), (qd, .inl (cD, 8, .inr (.inr (.inr (.inr (fun _ => none))))))]) [0, 5, 1] rfl
  have hKc := hK.sub (tys' := [(cD, .object R_D)]) [0] rfl
  have hDc := hD.sub (ws' := [(qK, .inr (0, [.ref qd, .ref qb, .ref qf, .ref qc, .ref qm, .ref qw, .ref qp, .int 0, .int (-1)])), (qp, .inr (4, [.int 0, .int 0, .int 0])), (qd, .inl (cD, 8, .inr (.inr (.inr (.inr (fun _ => none))))))]) [0, 5, 1] (by decide) rfl
  have hFc := va_free (wc := [(qK, .inr (0, [.ref qd, .ref qb, .ref qf, .ref qc, .ref qm, .ref qw, .ref qp, .int 0, .int (-1)])), (qp, .inr (4, [.int 0, .int 0, .int 0])), (qd, .inl (cD, 8, .inr (.inr (.inr (.inr (fun _ => none))))))]) hD hS hA [0, 5, 1] rfl
  refine va_calli (va_runSW (As := [.ref qK, .int (xs (Int32.toNatClampNeg 1)), .int (xs (Int32.toNatClampNeg 2)), .ref qo]) (rest := []) ⟨hx, hb, hml, hown, hw0⟩ (w_about l hl9 dC dI H.size qK (.ref qb) (.ref qf) (.ref qc) (.ref qm) (.ref qw) 0 (-1) qp 0 0 qd cD (xs (Int32.toNatClampNeg 1)) (xs (Int32.toNatClampNeg 2)) qo) (csw_of 4 hw0 400 401 402 335 rfl rfl rfl rfl rfl rfl (by decide +kernel) ⟨by decide +kernel, by decide +kernel⟩) (prS_T hPc hKc hDc hN hTw (fun a ha => hS.2.1 a ha (Nat.not_le.mpr ha))) rfl rfl hl.1 rfl (lv_room (Nat.le_of_ble_eq_true rfl)) d_L_law_738 ⟨by decide +kernel, by decide +kernel⟩) hS (fun q _ h => hFc q h) hFc (fun r_3 u t H1 locs ht hvm hw hB hz1 hk1 hS => ?_)
  obtain ⟨hP1, hK1, hD1⟩ := hB
  rw [ht] at hP1
  have hK1 := va_K.moved hvm.symm hK1
  try dsimp only at hw
  obtain ⟨hP, hD⟩ := va_join (wr := [(qb, .inr (1, [.ref qy, .int 0])), (qy, .inl (cB, 256, .inl (fun _ => 0))), (qf, .inr (1, [.ref qz, .int 0])), (qM, .inr (7, [.int 0, .int 0, .int (-1), .ref q_buffer, .int 0, .int 0, .ref q_gone, .ref q_first, .ref q_many, .ref q_lengths, .ref q_authors, .ref q_sums, .ref q_row, .ref q_made, .int 0, .ref q_base, .int 0, .ref q_text, .int (-1), .int (-1), .ref q_other, .int 0, .ref q_piece, .int 0, .int 0, .int 0, .int 0])), (q_buffer, .inl (cB2, 256, .inl (fun _ => 0))), (q_lengths, .inl (cS, 512, .inl (gL))), (qo, .inl (cO, 1, .inr (.inl (fun _ => 0))))]) (w1 := []) hP hD [0, 5, 1] [2, 3, 4, 6, 7, 8, 9] rfl rfl (by decide) (by decide) hk1 hFc hP1 hD1
  generalize H1 = H at hP hS ⊢
  replace hP : va_P (dC, dI) vwCl [(qb, .inr (1, [.ref qy, .int 0])), (qy, .inl (cB, 256, .inl (fun _ => 0))), (qf, .inr (1, [.ref qz, .int 0])), (qM, .inr (7, [.int 0, .int 0, .int (-1), .ref q_buffer, .int 0, .int 0, .ref q_gone, .ref q_first, .ref q_many, .ref q_lengths, .ref q_authors, .ref q_sums, .ref q_row, .ref q_made, .int 0, .ref q_base, .int 0, .ref q_text, .int (-1), .int (-1), .ref q_other, .int 0, .ref q_piece, .int 0, .int 0, .int 0, .int 0])), (q_buffer, .inl (cB2, 256, .inl (fun _ => 0))), (q_lengths, .inl (cS, 512, .inl (gL))), (qo, .inl (cO, 1, .inr (.inl (fun _ => 0))))] H := hP
  replace hD : va_D (fun q : Nat => s.heap.size ≤ q) [(qb, .inr (1, [.ref qy, .int 0])), (qy, .inl (cB, 256, .inl (fun _ => 0))), (qf, .inr (1, [.ref qz, .int 0])), (qM, .inr (7, [.int 0, .int 0, .int (-1), .ref q_buffer, .int 0, .int 0, .ref q_gone, .ref q_first, .ref q_many, .ref q_lengths, .ref q_authors, .ref q_sums, .ref q_row, .ref q_made, .int 0, .ref q_base, .int 0, .ref q_text, .int (-1), .int (-1), .ref q_other, .int 0, .ref q_piece, .int 0, .int 0, .int 0, .int 0])), (q_buffer, .inl (cB2, 256, .inl (fun _ => 0))), (q_lengths, .inl (cS, 512, .inl (gL))), (qo, .inl (cO, 1, .inr (.inl (fun _ => 0))))] := hD
  replace hK : va_K (dC, dI) vwCl [(cD, .object R_D), (cB, .byte), (cB2, .byte), (cS, .short), (cO, .long)] s := hK
  refine W.widen (k := 33) (n := 26006) (by decide +kernel) (by decide +kernel) ?_
  obtain rfl : r_3 = 1 := hw
  refine lv_istore (lv' := [(5, .int 1), (4, .int 0), (3, .ref qo), (2, .ref qM), (1, .ref qK), (0, .ref b)]) hx hb d_L_law_741 hl (by decide) rfl (fun ls hl => ?_)
  refine lv_aload_n hx hb d_L_law_743 rfl (lv_at hl 3 rfl) ?_
  refine lv_aload_n hx hb d_L_law_744 rfl (lv_at hl 5 rfl) ?_
  refine lv_iload hx hb d_L_law_745 (lv_at hl 1 rfl) ?_
  refine lv_iconst (v := 1) hx hb d_L_law_747 (by decide) ?_
  refine lv_iadd hx hb d_L_law_748 ?_
  refine lv_topi (fun x_5 ex_5 => ?_)
  obtain rfl : x_5 = 1 := ex_5.trans (by decide +kernel)
  clear ex_5
  refine va_sld hx hb hX hbl hbA hS (by unfold vp_in; decide +kernel) d_L_law_749 ?_
  refine lv_aload_n hx hb d_L_law_750 rfl (lv_at hl 5 rfl) ?_
  refine lv_iload hx hb d_L_law_751 (lv_at hl 1 rfl) ?_
  refine lv_iconst (v := 2) hx hb d_L_law_753 (by decide) ?_
  refine lv_iadd hx hb d_L_law_754 ?_
  refine lv_topi (fun x_6 ex_6 => ?_)
  obtain rfl : x_6 = 2 := ex_6.trans (by decide +kernel)
  clear ex_6
  refine va_sld hx hb hX hbl hbA hS (by unfold vp_in; decide +kernel) d_L_law_755 ?_
  have hPc := hP.sub (ws' := [(qM, .inr (7, [.int 0, .int 0, .int (-1), .ref q_buffer, .int 0, .int 0, .ref q_gone, .ref q_first, .ref q_many, .ref q_lengths, .ref q_authors, .ref q_sums, .ref q_row, .ref q_made, .int 0, .ref q_base, .int 0, .ref q_text, .int (-1), .int (-1), .ref q_other, .int 0, .ref q_piece, .int 0, .int 0, .int 0, .int 0]))]) [3] rfl
  have hKc := hK.sub (tys' := []) [] rfl
  have hDc := hD.sub (ws' := [(qM, .inr (7, [.int 0, .int 0, .int (-1), .ref q_buffer, .int 0, .int 0, .ref q_gone, .ref q_first, .ref q_many, .ref q_lengths, .ref q_authors, .ref q_sums, .ref q_row, .ref q_made, .int 0, .ref q_base, .int 0, .ref q_text, .int (-1), .int (-1), .ref q_other, .int 0, .ref q_piece, .int 0, .int 0, .int 0, .int 0]))]) [3] (by decide) rfl
  have hFc := va_free (wc := [(qM, .inr (7, [.int 0, .int 0, .int (-1), .ref q_buffer, .int 0, .int 0, .ref q_gone, .ref q_first, .ref q_many, .ref q_lengths, .ref q_authors, .ref q_sums, .ref q_row, .ref q_made, .int 0, .ref q_base, .int 0, .ref q_text, .int (-1), .int (-1), .ref q_other, .int 0, .ref q_piece, .int 0, .int 0, .int 0, .int 0]))]) hD hS hA [3] rfl
  refine va_calli (va_runV (As := [.int (xs (Int32.toNatClampNeg 1)), .int (xs (Int32.toNatClampNeg 2))]) (rest := []) ⟨hx, hb, hml, hown, hw0⟩ (m_about l dC dI H.size qM 0 (-1) (.ref q_buffer) 0 (.ref q_gone) (.ref q_first) (.ref q_many) (.ref q_lengths) (.ref q_authors) (.ref q_sums) (.ref q_row) (.ref q_made) 0 (.ref q_base) 0 (.ref q_text) (-1) (-1) (.ref q_other) 0 (.ref q_piece) 0 0 0 0 (xs (Int32.toNatClampNeg 1)) (xs (Int32.toNatClampNeg 2))) (cwV 2 hw0 (gd_V 403 404 405 173 406 rfl rfl rfl rfl rfl) rfl rfl rfl (by decide +kernel) ⟨by decide +kernel, by decide +kernel⟩) (prV_E hPc hKc hDc hN (va_recv hKc hPc (ci := 7) (q0 := 0) rfl rfl)) rfl rfl hl.1 rfl (lv_room (Nat.le_of_ble_eq_true rfl)) d_L_law_756 ⟨by decide +kernel, by decide +kernel⟩) hS (fun q _ h => hFc q h) hFc (fun r_7 u t H1 locs ht hvm hw hB hz1 hk1 hS => ?_)
  obtain ⟨hP1, hK1, hD1⟩ := hB
  rw [ht] at hP1
  have hK1 := va_K.moved hvm.symm hK1
  try dsimp only at hw
  obtain ⟨hP, hD⟩ := va_join (wr := [(qb, .inr (1, [.ref qy, .int 0])), (qy, .inl (cB, 256, .inl (fun _ => 0))), (qf, .inr (1, [.ref qz, .int 0])), (q_buffer, .inl (cB2, 256, .inl (fun _ => 0))), (q_lengths, .inl (cS, 512, .inl (gL))), (qo, .inl (cO, 1, .inr (.inl (fun _ => 0))))]) (w1 := [(qM, .inr (7, [.int 1, .int 0, .int (-1), .ref q_buffer, .int 0, .int 0, .ref q_gone, .ref q_first, .ref q_many, .ref q_lengths, .ref q_authors, .ref q_sums, .ref q_row, .ref q_made, .int 0, .ref q_base, .int 0, .ref q_text, .int (-1), .int (-1), .ref q_other, .int 0, .ref q_piece, .int 0, .int 0, .int 0, .int 0]))]) hP hD [3] [0, 1, 2, 4, 5, 6] rfl rfl (by decide) (by decide) hk1 hFc hP1 hD1
  generalize H1 = H at hP hS ⊢
  replace hP : va_P (dC, dI) vwCl [(qb, .inr (1, [.ref qy, .int 0])), (qy, .inl (cB, 256, .inl (fun _ => 0))), (qf, .inr (1, [.ref qz, .int 0])), (q_buffer, .inl (cB2, 256, .inl (fun _ => 0))), (q_lengths, .inl (cS, 512, .inl (gL))), (qo, .inl (cO, 1, .inr (.inl (fun _ => 0)))), (qM, .inr (7, [.int 1, .int 0, .int (-1), .ref q_buffer, .int 0, .int 0, .ref q_gone, .ref q_first, .ref q_many, .ref q_lengths, .ref q_authors, .ref q_sums, .ref q_row, .ref q_made, .int 0, .ref q_base, .int 0, .ref q_text, .int (-1), .int (-1), .ref q_other, .int 0, .ref q_piece, .int 0, .int 0, .int 0, .int 0]))] H := hP
  replace hD : va_D (fun q : Nat => s.heap.size ≤ q) [(qb, .inr (1, [.ref qy, .int 0])), (qy, .inl (cB, 256, .inl (fun _ => 0))), (qf, .inr (1, [.ref qz, .int 0])), (q_buffer, .inl (cB2, 256, .inl (fun _ => 0))), (q_lengths, .inl (cS, 512, .inl (gL))), (qo, .inl (cO, 1, .inr (.inl (fun _ => 0)))), (qM, .inr (7, [.int 1, .int 0, .int (-1), .ref q_buffer, .int 0, .int 0, .ref q_gone, .ref q_first, .ref q_many, .ref q_lengths, .ref q_authors, .ref q_sums, .ref q_row, .ref q_made, .int 0, .ref q_base, .int 0, .ref q_text, .int (-1), .int (-1), .ref q_other, .int 0, .ref q_piece, .int 0, .int 0, .int 0, .int 0]))] := hD
  replace hK : va_K (dC, dI) vwCl [(cD, .object R_D), (cB, .byte), (cB2, .byte), (cS, .short), (cO, .long)] s := hK
  obtain rfl : r_7 = 0 := hw
  refine lv_istore (lv' := [(6, .int 0), (5, .int 1), (4, .int 0), (3, .ref qo), (2, .ref qM), (1, .ref qK), (0, .ref b)]) hx hb d_L_law_759 hl (by decide) rfl (fun ls hl => ?_)
  refine lv_aload_n hx hb d_L_law_761 rfl (lv_at hl 4 rfl) ?_
  have hPc := hP.sub (ws' := [(qM, .inr (7, [.int 1, .int 0, .int (-1), .ref q_buffer, .int 0, .int 0, .ref q_gone, .ref q_first, .ref q_many, .ref q_lengths, .ref q_authors, .ref q_sums, .ref q_row, .ref q_made, .int 0, .ref q_base, .int 0, .ref q_text, .int (-1), .int (-1), .ref q_other, .int 0, .ref q_piece, .int 0, .int 0, .int 0, .int 0]))]) [6] rfl
  have hKc := hK.sub (tys' := []) [] rfl
  refine ps_i (va_runV (As := []) (rest := []) ⟨hx, hb, hml, hown, hw0⟩ (m_thrown l dC dI qM 1 0 (-1) (.ref q_buffer) 0 0 (.ref q_gone) (.ref q_first) (.ref q_many) (.ref q_lengths) (.ref q_authors) (.ref q_sums) (.ref q_row) (.ref q_made) 0 (.ref q_base) 0 (.ref q_text) (-1) (-1) (.ref q_other) 0 (.ref q_piece) 0 0 0 0) (cwV 0 hw0 (gd_V 340 341 342 173 343 rfl rfl rfl rfl rfl) rfl rfl rfl (by decide +kernel) ⟨by decide +kernel, by decide +kernel⟩) (prV_R hPc hKc hN (va_recv hKc hPc (ci := 7) (q0 := 0) rfl rfl)) rfl rfl hl.1 rfl (lv_room (Nat.le_of_ble_eq_true rfl)) d_L_law_762 ⟨by decide +kernel, by decide +kernel⟩) (fun r_9 hr_9 => ?_)
  obtain rfl : r_9 = 1 := hr_9
  refine lv_iload hx hb d_L_law_765 (lv_at hl 1 rfl) ?_
  refine lv_icmp_eq (tgt := 772) hx hb d_L_law_767 (by decide) (fun _ => ?_) (fun h9 => absurd h9 (by decide +kernel))
  refine lv_iload hx hb d_L_law_772 (lv_at hl 1 rfl) ?_
  refine lv_if_ne (tgt := 789) hx hb d_L_law_774 (by decide) (fun _ => ?_) (fun h9 => absurd h9 (by decide +kernel))
  refine lv_goto (tgt := 1332) hx hb d_L_law_789 (by decide) ?_
  refine W.widen (k := 600002) (n := 7302232) (by decide +kernel) (by decide +kernel) ?_
  exact law_end l hl9 C0 _ _ hS ls (lv_sub hl [2, 6] rfl)
set_option maxHeartbeats 4000000 in
set_option maxRecDepth 100000 in
theorem law_case_10 {p : Program} {e : Env} {s : State} {m : MethodId} {below : List Frame} {meth : Method} {c : Code} (l : Launch) (hl9 : l.stackTraces = false) {b : Nat} {xs : Nat → Int32} (C0 : lw_At p s m meth c b 6 xs) {dC : Nat → ClassId} {dI : Nat → Nat → Nat} (qK qd qb qy qf qz qc qm qw qp qM q_buffer q_gone q_first q_many q_lengths q_authors q_sums q_row q_made q_base q_text q_other q_piece qo : Nat) (cD cB cB2 cS cO : ClassId) (gL : Nat → Int32) (hgL : ∀ i, i < 512 → gL i = (-1))  (hN : nw_ok s) (hTw : tw_ok s) (hK : va_K (dC, dI) vwCl [(cD, .object R_D), (cB, .byte), (cB2, .byte), (cS, .short), (cO, .long)] s) (H : Heap) (locs : List Loc) (hP : va_P (dC, dI) vwCl [(qK, .inr (0, [.ref qd, .ref qb, .ref qf, .ref qc, .ref qm, .ref qw, .ref qp, .int 0, .int (-1)])), (qd, .inl (cD, 8, .inr (.inr (.inr (.inr (fun _ => none)))))), (qb, .inr (1, [.ref qy, .int 0])), (qy, .inl (cB, 256, .inl (fun _ => 0))), (qf, .inr (1, [.ref qz, .int 0])), (qp, .inr (4, [.int 0, .int 0, .int 0])), (qM, .inr (7, [.int 0, .int 0, .int (-1), .ref q_buffer, .int 0, .int 0, .ref q_gone, .ref q_first, .ref q_many, .ref q_lengths, .ref q_authors, .ref q_sums, .ref q_row, .ref q_made, .int 0, .ref q_base, .int 0, .ref q_text, .int (-1), .int (-1), .ref q_other, .int 0, .ref q_piece, .int 0, .int 0, .int 0, .int 0])), (q_buffer, .inl (cB2, 256, .inl (fun _ => 0))), (q_lengths, .inl (cS, 512, .inl (gL))), (qo, .inl (cO, 1, .inr (.inl (fun _ => 0))))] H) (hD : va_D (fun q : Nat => s.heap.size ≤ q) [(qK, .inr (0, [.ref qd, .ref qb, .ref qf, .ref qc, .ref qm, .ref qw, .ref qp, .int 0, .int (-1)])), (qd, .inl (cD, 8, .inr (.inr (.inr (.inr (fun _ => none)))))), (qb, .inr (1, [.ref qy, .int 0])), (qy, .inl (cB, 256, .inl (fun _ => 0))), (qf, .inr (1, [.ref qz, .int 0])), (qp, .inr (4, [.int 0, .int 0, .int 0])), (qM, .inr (7, [.int 0, .int 0, .int (-1), .ref q_buffer, .int 0, .int 0, .ref q_gone, .ref q_first, .ref q_many, .ref q_lengths, .ref q_authors, .ref q_sums, .ref q_row, .ref q_made, .int 0, .ref q_base, .int 0, .ref q_text, .int (-1), .int (-1), .ref q_other, .int 0, .ref q_piece, .int 0, .int 0, .int 0, .int 0])), (q_buffer, .inl (cB2, 256, .inl (fun _ => 0))), (q_lengths, .inl (cS, 512, .inl (gL))), (qo, .inl (cO, 1, .inr (.inl (fun _ => 0))))]) (hS : va_S (fun q : Nat => s.heap.size ≤ q) s.heap H locs) (ls : Array Slot) (hl : lv_has ls 7 [(4, .int 0), (3, .ref qo), (2, .ref qM), (1, .ref qK), (0, .ref b)]) : W p l e room_1 s m #[Value.ref b] below meth c H locs 32 26000 (lw_Z below #[Value.ref b] s) (F0 m 792 ls []) := by
  obtain ⟨hx, hb, hr, hml, hown, hts, hX, hbl, hlocks, hgv⟩ := id C0
  have hw0 : ∀ w ∈ w0, w.before #[Value.ref b] s = true := fun w h => hts w (w0_ok w h).1
  have hA : ∀ q : Nat, s.heap.size ≤ q → (fun q : Nat => s.heap.size ≤ q) q := fun _ h => h
  have hbA : ¬ (fun q : Nat => s.heap.size ≤ q) b := Nat.not_le.mpr hbl
  refine lv_aload_n hx hb d_L_law_792 rfl (lv_at hl 3 rfl) ?_
  refine lv_aload_n hx hb d_L_law_793 rfl (lv_at hl 4 rfl) ?_
  refine lv_iload hx hb d_L_law_794 (lv_at hl 0 rfl) ?_
  refine lv_iconst (v := 1) hx hb d_L_law_796 (by decide) ?_
  refine lv_iadd hx hb d_L_law_797 ?_
  refine lv_topi (fun x_1 ex_1 => ?_)
  obtain rfl : x_1 = 1 := ex_1.trans (by decide +kernel)
  clear ex_1
  refine va_sld hx hb hX hbl hbA hS (by unfold vp_in; decide +kernel) d_L_law_798 ?_
  refine lv_aload_n hx hb d_L_law_799 rfl (lv_at hl 4 rfl) ?_
  refine lv_iload hx hb d_L_law_800 (lv_at hl 0 rfl) ?_
  refine lv_iconst (v := 2) hx hb d_L_law_802 (by decide) ?_
  refine lv_iadd hx hb d_L_law_803 ?_
  refine lv_topi (fun x_2 ex_2 => ?_)
  obtain rfl : x_2 = 2 := ex_2.trans (by decide +kernel)
  clear ex_2
  refine va_sld hx hb hX hbl hbA hS (by unfold vp_in; decide +kernel) d_L_law_804 ?_
  refine lv_aload_n hx hb d_L_law_805 rfl (lv_at hl 4 rfl) ?_
  refine lv_iload hx hb d_L_law_806 (lv_at hl 0 rfl) ?_
  refine lv_iconst (v := 3) hx hb d_L_law_808 (by decide) ?_
  refine lv_iadd hx hb d_L_law_809 ?_
  refine lv_topi (fun x_3 ex_3 => ?_)
  obtain rfl : x_3 = 3 := ex_3.trans (by decide +kernel)
  clear ex_3
  refine va_sld hx hb hX hbl hbA hS (by unfold vp_in; decide +kernel) d_L_law_810 ?_
  refine lv_aload_n hx hb d_L_law_811 rfl (lv_at hl 1 rfl) ?_
  have hPc := hP.sub (ws' := [(qK, .inr (0, [.ref qd, .ref qb, .ref qf, .ref qc, .ref qm, .ref qw, .ref qp, .int 0, .int (-1)])), (qp, .inr (4, [.int 0, .int 0, .int 0])), (qd, .inl (cD, 8, .inr (.inr (.inr (.inr (fun _ => none))))))]) [0, 5, 1] rfl
  have hKc := hK.sub (tys' := [(cD, .object R_D)]) [0] rfl
  have hDc := hD.sub (ws' := [(qK, .inr (0, [.ref qd, .ref qb, .ref qf, .ref qc, .ref qm, .ref qw, .ref qp, .int 0, .int (-1)])), (qp, .inr (4, [.int 0, .int 0, .int 0])), (qd, .inl (cD, 8, .inr (.inr (.inr (.inr (fun _ => none))))))]) [0, 5, 1] (by decide) rfl
  have hFc := va_free (wc := [(qK, .inr (0, [.ref qd, .ref qb, .ref qf, .ref qc, .ref qm, .ref qw, .ref qp, .int 0, .int (-1)])), (qp, .inr (4, [.int 0, .int 0, .int 0])), (qd, .inl (cD, 8, .inr (.inr (.inr (.inr (fun _ => none))))))]) hD hS hA [0, 5, 1] rfl
  refine va_calli (va_runSW (As := [.ref qK, .int (xs (Int32.toNatClampNeg 1)), .int (xs (Int32.toNatClampNeg 2)), .int (xs (Int32.toNatClampNeg 3)), .ref qo]) (rest := []) ⟨hx, hb, hml, hown, hw0⟩ (w_revision l hl9 dC dI H.size qK (.ref qb) (.ref qf) (.ref qc) (.ref qm) (.ref qw) 0 (-1) qp 0 0 qd cD (xs (Int32.toNatClampNeg 1)) (xs (Int32.toNatClampNeg 2)) (xs (Int32.toNatClampNeg 3)) qo) (csw_of 5 hw0 407 408 409 335 rfl rfl rfl rfl rfl rfl (by decide +kernel) ⟨by decide +kernel, by decide +kernel⟩) (prS_T hPc hKc hDc hN hTw (fun a ha => hS.2.1 a ha (Nat.not_le.mpr ha))) rfl rfl hl.1 rfl (lv_room (Nat.le_of_ble_eq_true rfl)) d_L_law_812 ⟨by decide +kernel, by decide +kernel⟩) hS (fun q _ h => hFc q h) hFc (fun r_4 u t H1 locs ht hvm hw hB hz1 hk1 hS => ?_)
  obtain ⟨hP1, hK1, hD1⟩ := hB
  rw [ht] at hP1
  have hK1 := va_K.moved hvm.symm hK1
  try dsimp only at hw
  obtain ⟨hP, hD⟩ := va_join (wr := [(qb, .inr (1, [.ref qy, .int 0])), (qy, .inl (cB, 256, .inl (fun _ => 0))), (qf, .inr (1, [.ref qz, .int 0])), (qM, .inr (7, [.int 0, .int 0, .int (-1), .ref q_buffer, .int 0, .int 0, .ref q_gone, .ref q_first, .ref q_many, .ref q_lengths, .ref q_authors, .ref q_sums, .ref q_row, .ref q_made, .int 0, .ref q_base, .int 0, .ref q_text, .int (-1), .int (-1), .ref q_other, .int 0, .ref q_piece, .int 0, .int 0, .int 0, .int 0])), (q_buffer, .inl (cB2, 256, .inl (fun _ => 0))), (q_lengths, .inl (cS, 512, .inl (gL))), (qo, .inl (cO, 1, .inr (.inl (fun _ => 0))))]) (w1 := []) hP hD [0, 5, 1] [2, 3, 4, 6, 7, 8, 9] rfl rfl (by decide) (by decide) hk1 hFc hP1 hD1
  generalize H1 = H at hP hS ⊢
  replace hP : va_P (dC, dI) vwCl [(qb, .inr (1, [.ref qy, .int 0])), (qy, .inl (cB, 256, .inl (fun _ => 0))), (qf, .inr (1, [.ref qz, .int 0])), (qM, .inr (7, [.int 0, .int 0, .int (-1), .ref q_buffer, .int 0, .int 0, .ref q_gone, .ref q_first, .ref q_many, .ref q_lengths, .ref q_authors, .ref q_sums, .ref q_row, .ref q_made, .int 0, .ref q_base, .int 0, .ref q_text, .int (-1), .int (-1), .ref q_other, .int 0, .ref q_piece, .int 0, .int 0, .int 0, .int 0])), (q_buffer, .inl (cB2, 256, .inl (fun _ => 0))), (q_lengths, .inl (cS, 512, .inl (gL))), (qo, .inl (cO, 1, .inr (.inl (fun _ => 0))))] H := hP
  replace hD : va_D (fun q : Nat => s.heap.size ≤ q) [(qb, .inr (1, [.ref qy, .int 0])), (qy, .inl (cB, 256, .inl (fun _ => 0))), (qf, .inr (1, [.ref qz, .int 0])), (qM, .inr (7, [.int 0, .int 0, .int (-1), .ref q_buffer, .int 0, .int 0, .ref q_gone, .ref q_first, .ref q_many, .ref q_lengths, .ref q_authors, .ref q_sums, .ref q_row, .ref q_made, .int 0, .ref q_base, .int 0, .ref q_text, .int (-1), .int (-1), .ref q_other, .int 0, .ref q_piece, .int 0, .int 0, .int 0, .int 0])), (q_buffer, .inl (cB2, 256, .inl (fun _ => 0))), (q_lengths, .inl (cS, 512, .inl (gL))), (qo, .inl (cO, 1, .inr (.inl (fun _ => 0))))] := hD
  replace hK : va_K (dC, dI) vwCl [(cD, .object R_D), (cB, .byte), (cB2, .byte), (cS, .short), (cO, .long)] s := hK
  refine W.widen (k := 33) (n := 26006) (by decide +kernel) (by decide +kernel) ?_
  obtain rfl : r_4 = 1 := hw
  refine lv_istore (lv' := [(5, .int 1), (4, .int 0), (3, .ref qo), (2, .ref qM), (1, .ref qK), (0, .ref b)]) hx hb d_L_law_815 hl (by decide) rfl (fun ls hl => ?_)
  refine lv_aload_n hx hb d_L_law_817 rfl (lv_at hl 3 rfl) ?_
  refine lv_aload_n hx hb d_L_law_818 rfl (lv_at hl 5 rfl) ?_
  refine lv_iload hx hb d_L_law_819 (lv_at hl 1 rfl) ?_
  refine lv_iconst (v := 1) hx hb d_L_law_821 (by decide) ?_
  refine lv_iadd hx hb d_L_law_822 ?_
  refine lv_topi (fun x_6 ex_6 => ?_)
  obtain rfl : x_6 = 1 := ex_6.trans (by decide +kernel)
  clear ex_6
  refine va_sld hx hb hX hbl hbA hS (by unfold vp_in; decide +kernel) d_L_law_823 ?_
  refine lv_aload_n hx hb d_L_law_824 rfl (lv_at hl 5 rfl) ?_
  refine lv_iload hx hb d_L_law_825 (lv_at hl 1 rfl) ?_
  refine lv_iconst (v := 2) hx hb d_L_law_827 (by decide) ?_
  refine lv_iadd hx hb d_L_law_828 ?_
  refine lv_topi (fun x_7 ex_7 => ?_)
  obtain rfl : x_7 = 2 := ex_7.trans (by decide +kernel)
  clear ex_7
  refine va_sld hx hb hX hbl hbA hS (by unfold vp_in; decide +kernel) d_L_law_829 ?_
  refine lv_aload_n hx hb d_L_law_830 rfl (lv_at hl 5 rfl) ?_
  refine lv_iload hx hb d_L_law_831 (lv_at hl 1 rfl) ?_
  refine lv_iconst (v := 3) hx hb d_L_law_833 (by decide) ?_
  refine lv_iadd hx hb d_L_law_834 ?_
  refine lv_topi (fun x_8 ex_8 => ?_)
  obtain rfl : x_8 = 3 := ex_8.trans (by decide +kernel)
  clear ex_8
  refine va_sld hx hb hX hbl hbA hS (by unfold vp_in; decide +kernel) d_L_law_835 ?_
  have hPc := hP.sub (ws' := [(qM, .inr (7, [.int 0, .int 0, .int (-1), .ref q_buffer, .int 0, .int 0, .ref q_gone, .ref q_first, .ref q_many, .ref q_lengths, .ref q_authors, .ref q_sums, .ref q_row, .ref q_made, .int 0, .ref q_base, .int 0, .ref q_text, .int (-1), .int (-1), .ref q_other, .int 0, .ref q_piece, .int 0, .int 0, .int 0, .int 0]))]) [3] rfl
  have hKc := hK.sub (tys' := []) [] rfl
  have hDc := hD.sub (ws' := [(qM, .inr (7, [.int 0, .int 0, .int (-1), .ref q_buffer, .int 0, .int 0, .ref q_gone, .ref q_first, .ref q_many, .ref q_lengths, .ref q_authors, .ref q_sums, .ref q_row, .ref q_made, .int 0, .ref q_base, .int 0, .ref q_text, .int (-1), .int (-1), .ref q_other, .int 0, .ref q_piece, .int 0, .int 0, .int 0, .int 0]))]) [3] (by decide) rfl
  have hFc := va_free (wc := [(qM, .inr (7, [.int 0, .int 0, .int (-1), .ref q_buffer, .int 0, .int 0, .ref q_gone, .ref q_first, .ref q_many, .ref q_lengths, .ref q_authors, .ref q_sums, .ref q_row, .ref q_made, .int 0, .ref q_base, .int 0, .ref q_text, .int (-1), .int (-1), .ref q_other, .int 0, .ref q_piece, .int 0, .int 0, .int 0, .int 0]))]) hD hS hA [3] rfl
  refine va_calli (va_runV (As := [.int (xs (Int32.toNatClampNeg 1)), .int (xs (Int32.toNatClampNeg 2)), .int (xs (Int32.toNatClampNeg 3))]) (rest := []) ⟨hx, hb, hml, hown, hw0⟩ (m_revision l dC dI H.size qM 0 (-1) (.ref q_buffer) 0 (.ref q_gone) (.ref q_first) (.ref q_many) (.ref q_lengths) (.ref q_authors) (.ref q_sums) (.ref q_row) (.ref q_made) 0 (.ref q_base) 0 (.ref q_text) (-1) (-1) (.ref q_other) 0 (.ref q_piece) 0 0 0 0 (xs (Int32.toNatClampNeg 1)) (xs (Int32.toNatClampNeg 2)) (xs (Int32.toNatClampNeg 3))) (cwV 3 hw0 (gd_V 410 411 412 173 413 rfl rfl rfl rfl rfl) rfl rfl rfl (by decide +kernel) ⟨by decide +kernel, by decide +kernel⟩) (prV_E hPc hKc hDc hN (va_recv hKc hPc (ci := 7) (q0 := 0) rfl rfl)) rfl rfl hl.1 rfl (lv_room (Nat.le_of_ble_eq_true rfl)) d_L_law_836 ⟨by decide +kernel, by decide +kernel⟩) hS (fun q _ h => hFc q h) hFc (fun r_9 u t H1 locs ht hvm hw hB hz1 hk1 hS => ?_)
  obtain ⟨hP1, hK1, hD1⟩ := hB
  rw [ht] at hP1
  have hK1 := va_K.moved hvm.symm hK1
  try dsimp only at hw
  obtain ⟨hP, hD⟩ := va_join (wr := [(qb, .inr (1, [.ref qy, .int 0])), (qy, .inl (cB, 256, .inl (fun _ => 0))), (qf, .inr (1, [.ref qz, .int 0])), (q_buffer, .inl (cB2, 256, .inl (fun _ => 0))), (q_lengths, .inl (cS, 512, .inl (gL))), (qo, .inl (cO, 1, .inr (.inl (fun _ => 0))))]) (w1 := [(qM, .inr (7, [.int 1, .int 0, .int (-1), .ref q_buffer, .int 0, .int 0, .ref q_gone, .ref q_first, .ref q_many, .ref q_lengths, .ref q_authors, .ref q_sums, .ref q_row, .ref q_made, .int 0, .ref q_base, .int 0, .ref q_text, .int (-1), .int (-1), .ref q_other, .int 0, .ref q_piece, .int 0, .int 0, .int 0, .int 0]))]) hP hD [3] [0, 1, 2, 4, 5, 6] rfl rfl (by decide) (by decide) hk1 hFc hP1 hD1
  generalize H1 = H at hP hS ⊢
  replace hP : va_P (dC, dI) vwCl [(qb, .inr (1, [.ref qy, .int 0])), (qy, .inl (cB, 256, .inl (fun _ => 0))), (qf, .inr (1, [.ref qz, .int 0])), (q_buffer, .inl (cB2, 256, .inl (fun _ => 0))), (q_lengths, .inl (cS, 512, .inl (gL))), (qo, .inl (cO, 1, .inr (.inl (fun _ => 0)))), (qM, .inr (7, [.int 1, .int 0, .int (-1), .ref q_buffer, .int 0, .int 0, .ref q_gone, .ref q_first, .ref q_many, .ref q_lengths, .ref q_authors, .ref q_sums, .ref q_row, .ref q_made, .int 0, .ref q_base, .int 0, .ref q_text, .int (-1), .int (-1), .ref q_other, .int 0, .ref q_piece, .int 0, .int 0, .int 0, .int 0]))] H := hP
  replace hD : va_D (fun q : Nat => s.heap.size ≤ q) [(qb, .inr (1, [.ref qy, .int 0])), (qy, .inl (cB, 256, .inl (fun _ => 0))), (qf, .inr (1, [.ref qz, .int 0])), (q_buffer, .inl (cB2, 256, .inl (fun _ => 0))), (q_lengths, .inl (cS, 512, .inl (gL))), (qo, .inl (cO, 1, .inr (.inl (fun _ => 0)))), (qM, .inr (7, [.int 1, .int 0, .int (-1), .ref q_buffer, .int 0, .int 0, .ref q_gone, .ref q_first, .ref q_many, .ref q_lengths, .ref q_authors, .ref q_sums, .ref q_row, .ref q_made, .int 0, .ref q_base, .int 0, .ref q_text, .int (-1), .int (-1), .ref q_other, .int 0, .ref q_piece, .int 0, .int 0, .int 0, .int 0]))] := hD
  replace hK : va_K (dC, dI) vwCl [(cD, .object R_D), (cB, .byte), (cB2, .byte), (cS, .short), (cO, .long)] s := hK
  obtain rfl : r_9 = 0 := hw
  refine lv_istore (lv' := [(6, .int 0), (5, .int 1), (4, .int 0), (3, .ref qo), (2, .ref qM), (1, .ref qK), (0, .ref b)]) hx hb d_L_law_839 hl (by decide) rfl (fun ls hl => ?_)
  refine lv_aload_n hx hb d_L_law_841 rfl (lv_at hl 4 rfl) ?_
  have hPc := hP.sub (ws' := [(qM, .inr (7, [.int 1, .int 0, .int (-1), .ref q_buffer, .int 0, .int 0, .ref q_gone, .ref q_first, .ref q_many, .ref q_lengths, .ref q_authors, .ref q_sums, .ref q_row, .ref q_made, .int 0, .ref q_base, .int 0, .ref q_text, .int (-1), .int (-1), .ref q_other, .int 0, .ref q_piece, .int 0, .int 0, .int 0, .int 0]))]) [6] rfl
  have hKc := hK.sub (tys' := []) [] rfl
  refine ps_i (va_runV (As := []) (rest := []) ⟨hx, hb, hml, hown, hw0⟩ (m_thrown l dC dI qM 1 0 (-1) (.ref q_buffer) 0 0 (.ref q_gone) (.ref q_first) (.ref q_many) (.ref q_lengths) (.ref q_authors) (.ref q_sums) (.ref q_row) (.ref q_made) 0 (.ref q_base) 0 (.ref q_text) (-1) (-1) (.ref q_other) 0 (.ref q_piece) 0 0 0 0) (cwV 0 hw0 (gd_V 340 341 342 173 343 rfl rfl rfl rfl rfl) rfl rfl rfl (by decide +kernel) ⟨by decide +kernel, by decide +kernel⟩) (prV_R hPc hKc hN (va_recv hKc hPc (ci := 7) (q0 := 0) rfl rfl)) rfl rfl hl.1 rfl (lv_room (Nat.le_of_ble_eq_true rfl)) d_L_law_842 ⟨by decide +kernel, by decide +kernel⟩) (fun r_11 hr_11 => ?_)
  obtain rfl : r_11 = 1 := hr_11
  refine lv_iload hx hb d_L_law_845 (lv_at hl 1 rfl) ?_
  refine lv_icmp_eq (tgt := 852) hx hb d_L_law_847 (by decide) (fun _ => ?_) (fun h9 => absurd h9 (by decide +kernel))
  refine lv_iload hx hb d_L_law_852 (lv_at hl 1 rfl) ?_
  refine lv_if_ne (tgt := 869) hx hb d_L_law_854 (by decide) (fun _ => ?_) (fun h9 => absurd h9 (by decide +kernel))
  refine lv_goto (tgt := 1332) hx hb d_L_law_869 (by decide) ?_
  refine W.widen (k := 600002) (n := 7302232) (by decide +kernel) (by decide +kernel) ?_
  exact law_end l hl9 C0 _ _ hS ls (lv_sub hl [2, 6] rfl)
