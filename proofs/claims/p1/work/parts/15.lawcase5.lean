set_option maxHeartbeats 4000000 in
set_option maxRecDepth 100000 in
theorem law_case_14 {p : Program} {e : Env} {s : State} {m : MethodId} {below : List Frame} {meth : Method} {c : Code} (l : Launch) (hl9 : l.stackTraces = false) {b : Nat} {xs : Nat → Int32} (C0 : lw_At p s m meth c b 6 xs) {dC : Nat → ClassId} {dI : Nat → Nat → Nat} (qK qd qb qy qf qz qc qm qw qp qM q_buffer q_gone q_first q_many q_lengths q_authors q_sums q_row q_made q_base q_text q_other q_piece qo : Nat) (cD cB cB2 cS cO : ClassId) (gL : Nat → Int32) (hgL : ∀ i, i < 512 → gL i = (-1))  (hN : nw_ok s) (hTw : tw_ok s) (hK : va_K (dC, dI) vwCl [(cD, .object R_D), (cB, .byte), (cB2, .byte), (cS, .short), (cO, .long)] s) (H : Heap) (locs : List Loc) (hP : va_P (dC, dI) vwCl [(qK, .inr (0, [.ref qd, .ref qb, .ref qf, .ref qc, .ref qm, .ref qw, .ref qp, .int 0, .int (-1)])), (qd, .inl (cD, 8, .inr (.inr (.inr (.inr (fun _ => none)))))), (qb, .inr (1, [.ref qy, .int 0])), (qy, .inl (cB, 256, .inl (fun _ => 0))), (qf, .inr (1, [.ref qz, .int 0])), (qp, .inr (4, [.int 0, .int 0, .int 0])), (qM, .inr (7, [.int 0, .int 0, .int (-1), .ref q_buffer, .int 0, .int 0, .ref q_gone, .ref q_first, .ref q_many, .ref q_lengths, .ref q_authors, .ref q_sums, .ref q_row, .ref q_made, .int 0, .ref q_base, .int 0, .ref q_text, .int (-1), .int (-1), .ref q_other, .int 0, .ref q_piece, .int 0, .int 0, .int 0, .int 0])), (q_buffer, .inl (cB2, 256, .inl (fun _ => 0))), (q_lengths, .inl (cS, 512, .inl (gL))), (qo, .inl (cO, 1, .inr (.inl (fun _ => 0))))] H) (hD : va_D (fun q : Nat => s.heap.size ≤ q) [(qK, .inr (0, [.ref qd, .ref qb, .ref qf, .ref qc, .ref qm, .ref qw, .ref qp, .int 0, .int (-1)])), (qd, .inl (cD, 8, .inr (.inr (.inr (.inr (fun _ => none)))))), (qb, .inr (1, [.ref qy, .int 0])), (qy, .inl (cB, 256, .inl (fun _ => 0))), (qf, .inr (1, [.ref qz, .int 0])), (qp, .inr (4, [.int 0, .int 0, .int 0])), (qM, .inr (7, [.int 0, .int 0, .int (-1), .ref q_buffer, .int 0, .int 0, .ref q_gone, .ref q_first, .ref q_many, .ref q_lengths, .ref q_authors, .ref q_sums, .ref q_row, .ref q_made, .int 0, .ref q_base, .int 0, .ref q_text, .int (-1), .int (-1), .ref q_other, .int 0, .ref q_piece, .int 0, .int 0, .int 0, .int 0])), (q_buffer, .inl (cB2, 256, .inl (fun _ => 0))), (q_lengths, .inl (cS, 512, .inl (gL))), (qo, .inl (cO, 1, .inr (.inl (fun _ => 0))))]) (hS : va_S (fun q : Nat => s.heap.size ≤ q) s.heap H locs) (ls : Array Slot) (hl : lv_has ls 7 [(4, .int 0), (3, .ref qo), (2, .ref qM), (1, .ref qK), (0, .ref b)]) : W p l e room_1 s m #[Value.ref b] below meth c H locs 32 26000 (lw_Z below #[Value.ref b] s) (F0 m 1107 ls []) := by
  obtain ⟨hx, hb, hr, hml, hown, hts, hX, hbl, hlocks, hgv⟩ := id C0
  have hw0 : ∀ w ∈ w0, w.before #[Value.ref b] s = true := fun w h => hts w (w0_ok w h).1
  have hA : ∀ q : Nat, s.heap.size ≤ q → (fun q : Nat => s.heap.size ≤ q) q := fun _ h => h
  have hbA : ¬ (fun q : Nat => s.heap.size ≤ q) b := Nat.not_le.mpr hbl
  refine lv_aload_n hx hb d_L_law_1107 rfl (lv_at hl 3 rfl) ?_
  refine lv_aload_n hx hb d_L_law_1108 rfl (lv_at hl 4 rfl) ?_
  refine lv_iload hx hb d_L_law_1109 (lv_at hl 0 rfl) ?_
  refine lv_iconst (v := 1) hx hb d_L_law_1111 (by decide) ?_
  refine lv_iadd hx hb d_L_law_1112 ?_
  refine lv_topi (fun x_1 ex_1 => ?_)
  obtain rfl : x_1 = 1 := ex_1.trans (by decide +kernel)
  clear ex_1
  refine va_sld hx hb hX hbl hbA hS (by unfold vp_in; decide +kernel) d_L_law_1113 ?_
  refine lv_aload_n hx hb d_L_law_1114 rfl (lv_at hl 4 rfl) ?_
  refine lv_iload hx hb d_L_law_1115 (lv_at hl 0 rfl) ?_
  refine lv_iconst (v := 2) hx hb d_L_law_1117 (by decide) ?_
  refine lv_iadd hx hb d_L_law_1118 ?_
  refine lv_topi (fun x_2 ex_2 => ?_)
  obtain rfl : x_2 = 2 := ex_2.trans (by decide +kernel)
  clear ex_2
  refine va_sld hx hb hX hbl hbA hS (by unfold vp_in; decide +kernel) d_L_law_1119 ?_
  refine lv_aload_n hx hb d_L_law_1120 rfl (lv_at hl 4 rfl) ?_
  refine lv_iload hx hb d_L_law_1121 (lv_at hl 0 rfl) ?_
  refine lv_iconst (v := 3) hx hb d_L_law_1123 (by decide) ?_
  refine lv_iadd hx hb d_L_law_1124 ?_
  refine lv_topi (fun x_3 ex_3 => ?_)
  obtain rfl : x_3 = 3 := ex_3.trans (by decide +kernel)
  clear ex_3
  refine va_sld hx hb hX hbl hbA hS (by unfold vp_in; decide +kernel) d_L_law_1125 ?_
  refine lv_aload_n hx hb d_L_law_1126 rfl (lv_at hl 4 rfl) ?_
  refine lv_iload hx hb d_L_law_1127 (lv_at hl 0 rfl) ?_
  refine lv_iconst (v := 4) hx hb d_L_law_1129 (by decide) ?_
  refine lv_iadd hx hb d_L_law_1130 ?_
  refine lv_topi (fun x_4 ex_4 => ?_)
  obtain rfl : x_4 = 4 := ex_4.trans (by decide +kernel)
  clear ex_4
  refine va_sld hx hb hX hbl hbA hS (by unfold vp_in; decide +kernel) d_L_law_1131 ?_
  refine lv_aload_n hx hb d_L_law_1132 rfl (lv_at hl 1 rfl) ?_
  have hPc := hP.sub (ws' := [(qK, .inr (0, [.ref qd, .ref qb, .ref qf, .ref qc, .ref qm, .ref qw, .ref qp, .int 0, .int (-1)])), (qp, .inr (4, [.int 0, .int 0, .int 0])), (qd, .inl (cD, 8, .inr (.inr (.inr (.inr (fun _ => none)))))), (qo, .inl (cO, 1, .inr (.inl ((fun _ => 0)))))]) [0, 5, 1, 9] rfl
  have hKc := hK.sub (tys' := [(cD, .object R_D), (cO, .long)]) [0, 4] rfl
  have hDc := hD.sub (ws' := [(qK, .inr (0, [.ref qd, .ref qb, .ref qf, .ref qc, .ref qm, .ref qw, .ref qp, .int 0, .int (-1)])), (qp, .inr (4, [.int 0, .int 0, .int 0])), (qd, .inl (cD, 8, .inr (.inr (.inr (.inr (fun _ => none)))))), (qo, .inl (cO, 1, .inr (.inl ((fun _ => 0)))))]) [0, 5, 1, 9] (by decide) rfl
  have hFc := va_free (wc := [(qK, .inr (0, [.ref qd, .ref qb, .ref qf, .ref qc, .ref qm, .ref qw, .ref qp, .int 0, .int (-1)])), (qp, .inr (4, [.int 0, .int 0, .int 0])), (qd, .inl (cD, 8, .inr (.inr (.inr (.inr (fun _ => none)))))), (qo, .inl (cO, 1, .inr (.inl ((fun _ => 0)))))]) hD hS hA [0, 5, 1, 9] rfl
  refine va_calli (va_runSW (As := [.ref qK, .int (xs (Int32.toNatClampNeg 1)), .int (xs (Int32.toNatClampNeg 2)), .int (xs (Int32.toNatClampNeg 3)), .int (xs (Int32.toNatClampNeg 4)), .ref qo]) (rest := []) ⟨hx, hb, hml, hown, hw0⟩ (w_common l dC dI H.size qK (.ref qb) (.ref qf) (.ref qc) (.ref qm) (.ref qw) 0 (-1) qp 0 0 qd cD (xs (Int32.toNatClampNeg 1)) (xs (Int32.toNatClampNeg 2)) (xs (Int32.toNatClampNeg 3)) (xs (Int32.toNatClampNeg 4)) qo cO (fun _ => 0)) (csw_of 6 hw0 435 436 437 335 rfl rfl rfl rfl rfl rfl (by decide +kernel) ⟨by decide +kernel, by decide +kernel⟩) (prS_E hPc hKc hDc hN) rfl rfl hl.1 rfl (lv_room (Nat.le_of_ble_eq_true rfl)) d_L_law_1133 ⟨by decide +kernel, by decide +kernel⟩) hS (fun q _ h => hFc q h) hFc (fun r_5 u t H1 locs ht hvm hw hB hz1 hk1 hS => ?_)
  obtain ⟨g_6, hu_7, hP1, hK1, hD1⟩ := hB
  rw [ht] at hP1
  have hK1 := va_K.moved hvm.symm hK1
  try dsimp only at hw
  obtain ⟨hP, hD⟩ := va_join (wr := [(qb, .inr (1, [.ref qy, .int 0])), (qy, .inl (cB, 256, .inl (fun _ => 0))), (qf, .inr (1, [.ref qz, .int 0])), (qM, .inr (7, [.int 0, .int 0, .int (-1), .ref q_buffer, .int 0, .int 0, .ref q_gone, .ref q_first, .ref q_many, .ref q_lengths, .ref q_authors, .ref q_sums, .ref q_row, .ref q_made, .int 0, .ref q_base, .int 0, .ref q_text, .int (-1), .int (-1), .ref q_other, .int 0, .ref q_piece, .int 0, .int 0, .int 0, .int 0])), (q_buffer, .inl (cB2, 256, .inl (fun _ => 0))), (q_lengths, .inl (cS, 512, .inl (gL)))]) (w1 := [(qo, .inl (cO, 1, .inr (.inl (g_6))))]) hP hD [0, 5, 1, 9] [2, 3, 4, 6, 7, 8] rfl rfl (by decide) (by decide) hk1 hFc hP1 hD1
  generalize H1 = H at hP hS ⊢
  replace hP : va_P (dC, dI) vwCl [(qb, .inr (1, [.ref qy, .int 0])), (qy, .inl (cB, 256, .inl (fun _ => 0))), (qf, .inr (1, [.ref qz, .int 0])), (qM, .inr (7, [.int 0, .int 0, .int (-1), .ref q_buffer, .int 0, .int 0, .ref q_gone, .ref q_first, .ref q_many, .ref q_lengths, .ref q_authors, .ref q_sums, .ref q_row, .ref q_made, .int 0, .ref q_base, .int 0, .ref q_text, .int (-1), .int (-1), .ref q_other, .int 0, .ref q_piece, .int 0, .int 0, .int 0, .int 0])), (q_buffer, .inl (cB2, 256, .inl (fun _ => 0))), (q_lengths, .inl (cS, 512, .inl (gL))), (qo, .inl (cO, 1, .inr (.inl (g_6))))] H := hP
  replace hD : va_D (fun q : Nat => s.heap.size ≤ q) [(qb, .inr (1, [.ref qy, .int 0])), (qy, .inl (cB, 256, .inl (fun _ => 0))), (qf, .inr (1, [.ref qz, .int 0])), (qM, .inr (7, [.int 0, .int 0, .int (-1), .ref q_buffer, .int 0, .int 0, .ref q_gone, .ref q_first, .ref q_many, .ref q_lengths, .ref q_authors, .ref q_sums, .ref q_row, .ref q_made, .int 0, .ref q_base, .int 0, .ref q_text, .int (-1), .int (-1), .ref q_other, .int 0, .ref q_piece, .int 0, .int 0, .int 0, .int 0])), (q_buffer, .inl (cB2, 256, .inl (fun _ => 0))), (q_lengths, .inl (cS, 512, .inl (gL))), (qo, .inl (cO, 1, .inr (.inl (g_6))))] := hD
  replace hK : va_K (dC, dI) vwCl [(cD, .object R_D), (cB, .byte), (cB2, .byte), (cS, .short), (cO, .long)] s := hK
  obtain rfl : r_5 = 0 := hw
  refine lv_istore (lv' := [(5, .int 0), (4, .int 0), (3, .ref qo), (2, .ref qM), (1, .ref qK), (0, .ref b)]) hx hb d_L_law_1136 hl (by decide) rfl (fun ls hl => ?_)
  refine lv_aload_n hx hb d_L_law_1138 rfl (lv_at hl 3 rfl) ?_
  refine lv_aload_n hx hb d_L_law_1139 rfl (lv_at hl 5 rfl) ?_
  refine lv_iload hx hb d_L_law_1140 (lv_at hl 1 rfl) ?_
  refine lv_iconst (v := 1) hx hb d_L_law_1142 (by decide) ?_
  refine lv_iadd hx hb d_L_law_1143 ?_
  refine lv_topi (fun x_8 ex_8 => ?_)
  obtain rfl : x_8 = 1 := ex_8.trans (by decide +kernel)
  clear ex_8
  refine va_sld hx hb hX hbl hbA hS (by unfold vp_in; decide +kernel) d_L_law_1144 ?_
  refine lv_aload_n hx hb d_L_law_1145 rfl (lv_at hl 5 rfl) ?_
  refine lv_iload hx hb d_L_law_1146 (lv_at hl 1 rfl) ?_
  refine lv_iconst (v := 2) hx hb d_L_law_1148 (by decide) ?_
  refine lv_iadd hx hb d_L_law_1149 ?_
  refine lv_topi (fun x_9 ex_9 => ?_)
  obtain rfl : x_9 = 2 := ex_9.trans (by decide +kernel)
  clear ex_9
  refine va_sld hx hb hX hbl hbA hS (by unfold vp_in; decide +kernel) d_L_law_1150 ?_
  refine lv_aload_n hx hb d_L_law_1151 rfl (lv_at hl 5 rfl) ?_
  refine lv_iload hx hb d_L_law_1152 (lv_at hl 1 rfl) ?_
  refine lv_iconst (v := 3) hx hb d_L_law_1154 (by decide) ?_
  refine lv_iadd hx hb d_L_law_1155 ?_
  refine lv_topi (fun x_10 ex_10 => ?_)
  obtain rfl : x_10 = 3 := ex_10.trans (by decide +kernel)
  clear ex_10
  refine va_sld hx hb hX hbl hbA hS (by unfold vp_in; decide +kernel) d_L_law_1156 ?_
  refine lv_aload_n hx hb d_L_law_1157 rfl (lv_at hl 5 rfl) ?_
  refine lv_iload hx hb d_L_law_1158 (lv_at hl 1 rfl) ?_
  refine lv_iconst (v := 4) hx hb d_L_law_1160 (by decide) ?_
  refine lv_iadd hx hb d_L_law_1161 ?_
  refine lv_topi (fun x_11 ex_11 => ?_)
  obtain rfl : x_11 = 4 := ex_11.trans (by decide +kernel)
  clear ex_11
  refine va_sld hx hb hX hbl hbA hS (by unfold vp_in; decide +kernel) d_L_law_1162 ?_
  have hPc := hP.sub (ws' := [(qM, .inr (7, [.int 0, .int 0, .int (-1), .ref q_buffer, .int 0, .int 0, .ref q_gone, .ref q_first, .ref q_many, .ref q_lengths, .ref q_authors, .ref q_sums, .ref q_row, .ref q_made, .int 0, .ref q_base, .int 0, .ref q_text, .int (-1), .int (-1), .ref q_other, .int 0, .ref q_piece, .int 0, .int 0, .int 0, .int 0]))]) [3] rfl
  have hKc := hK.sub (tys' := []) [] rfl
  have hDc := hD.sub (ws' := [(qM, .inr (7, [.int 0, .int 0, .int (-1), .ref q_buffer, .int 0, .int 0, .ref q_gone, .ref q_first, .ref q_many, .ref q_lengths, .ref q_authors, .ref q_sums, .ref q_row, .ref q_made, .int 0, .ref q_base, .int 0, .ref q_text, .int (-1), .int (-1), .ref q_other, .int 0, .ref q_piece, .int 0, .int 0, .int 0, .int 0]))]) [3] (by decide) rfl
  have hFc := va_free (wc := [(qM, .inr (7, [.int 0, .int 0, .int (-1), .ref q_buffer, .int 0, .int 0, .ref q_gone, .ref q_first, .ref q_many, .ref q_lengths, .ref q_authors, .ref q_sums, .ref q_row, .ref q_made, .int 0, .ref q_base, .int 0, .ref q_text, .int (-1), .int (-1), .ref q_other, .int 0, .ref q_piece, .int 0, .int 0, .int 0, .int 0]))]) hD hS hA [3] rfl
  refine va_calli (va_runV (As := [.int (xs (Int32.toNatClampNeg 1)), .int (xs (Int32.toNatClampNeg 2)), .int (xs (Int32.toNatClampNeg 3)), .int (xs (Int32.toNatClampNeg 4))]) (rest := []) ⟨hx, hb, hml, hown, hw0⟩ (m_common l dC dI H.size qM 0 (-1) (.ref q_buffer) 0 (.ref q_gone) (.ref q_first) (.ref q_many) (.ref q_lengths) (.ref q_authors) (.ref q_sums) (.ref q_row) (.ref q_made) 0 (.ref q_base) 0 (.ref q_text) (-1) (-1) (.ref q_other) 0 (.ref q_piece) 0 0 0 0 (xs (Int32.toNatClampNeg 1)) (xs (Int32.toNatClampNeg 2)) (xs (Int32.toNatClampNeg 3)) (xs (Int32.toNatClampNeg 4))) (cwV 4 hw0 (gd_V 438 439 440 173 441 rfl rfl rfl rfl rfl) rfl rfl rfl (by decide +kernel) ⟨by decide +kernel, by decide +kernel⟩) (prV_E hPc hKc hDc hN (va_recv hKc hPc (ci := 7) (q0 := 0) rfl rfl)) rfl rfl hl.1 rfl (lv_room (Nat.le_of_ble_eq_true rfl)) d_L_law_1163 ⟨by decide +kernel, by decide +kernel⟩) hS (fun q _ h => hFc q h) hFc (fun r_12 u t H1 locs ht hvm hw hB hz1 hk1 hS => ?_)
  obtain ⟨hP1, hK1, hD1⟩ := hB
  rw [ht] at hP1
  have hK1 := va_K.moved hvm.symm hK1
  try dsimp only at hw
  obtain ⟨hP, hD⟩ := va_join (wr := [(qb, .inr (1, [.ref qy, .int 0])), (qy, .inl (cB, 256, .inl (fun _ => 0))), (qf, .inr (1, [.ref qz, .int 0])), (q_buffer, .inl (cB2, 256, .inl (fun _ => 0))), (q_lengths, .inl (cS, 512, .inl (gL))), (qo, .inl (cO, 1, .inr (.inl (g_6))))]) (w1 := [(qM, .inr (7, [.int 0, .int 0, .int (-1), .ref q_buffer, .int 0, .int 0, .ref q_gone, .ref q_first, .ref q_many, .ref q_lengths, .ref q_authors, .ref q_sums, .ref q_row, .ref q_made, .int 0, .ref q_base, .int 0, .ref q_text, .int (-1), .int (-1), .ref q_other, .int 0, .ref q_piece, .int 0, .int 0, .int 0, .int 0]))]) hP hD [3] [0, 1, 2, 4, 5, 6] rfl rfl (by decide) (by decide) hk1 hFc hP1 hD1
  generalize H1 = H at hP hS ⊢
  replace hP : va_P (dC, dI) vwCl [(qb, .inr (1, [.ref qy, .int 0])), (qy, .inl (cB, 256, .inl (fun _ => 0))), (qf, .inr (1, [.ref qz, .int 0])), (q_buffer, .inl (cB2, 256, .inl (fun _ => 0))), (q_lengths, .inl (cS, 512, .inl (gL))), (qo, .inl (cO, 1, .inr (.inl (g_6)))), (qM, .inr (7, [.int 0, .int 0, .int (-1), .ref q_buffer, .int 0, .int 0, .ref q_gone, .ref q_first, .ref q_many, .ref q_lengths, .ref q_authors, .ref q_sums, .ref q_row, .ref q_made, .int 0, .ref q_base, .int 0, .ref q_text, .int (-1), .int (-1), .ref q_other, .int 0, .ref q_piece, .int 0, .int 0, .int 0, .int 0]))] H := hP
  replace hD : va_D (fun q : Nat => s.heap.size ≤ q) [(qb, .inr (1, [.ref qy, .int 0])), (qy, .inl (cB, 256, .inl (fun _ => 0))), (qf, .inr (1, [.ref qz, .int 0])), (q_buffer, .inl (cB2, 256, .inl (fun _ => 0))), (q_lengths, .inl (cS, 512, .inl (gL))), (qo, .inl (cO, 1, .inr (.inl (g_6)))), (qM, .inr (7, [.int 0, .int 0, .int (-1), .ref q_buffer, .int 0, .int 0, .ref q_gone, .ref q_first, .ref q_many, .ref q_lengths, .ref q_authors, .ref q_sums, .ref q_row, .ref q_made, .int 0, .ref q_base, .int 0, .ref q_text, .int (-1), .int (-1), .ref q_other, .int 0, .ref q_piece, .int 0, .int 0, .int 0, .int 0]))] := hD
  replace hK : va_K (dC, dI) vwCl [(cD, .object R_D), (cB, .byte), (cB2, .byte), (cS, .short), (cO, .long)] s := hK
  obtain rfl : r_12 = (-1) := hw
  refine lv_istore (lv' := [(6, .int (-1)), (5, .int 0), (4, .int 0), (3, .ref qo), (2, .ref qM), (1, .ref qK), (0, .ref b)]) hx hb d_L_law_1166 hl (by decide) rfl (fun ls hl => ?_)
  refine lv_aload_n hx hb d_L_law_1168 rfl (lv_at hl 4 rfl) ?_
  have hPc := hP.sub (ws' := [(qM, .inr (7, [.int 0, .int 0, .int (-1), .ref q_buffer, .int 0, .int 0, .ref q_gone, .ref q_first, .ref q_many, .ref q_lengths, .ref q_authors, .ref q_sums, .ref q_row, .ref q_made, .int 0, .ref q_base, .int 0, .ref q_text, .int (-1), .int (-1), .ref q_other, .int 0, .ref q_piece, .int 0, .int 0, .int 0, .int 0]))]) [6] rfl
  have hKc := hK.sub (tys' := []) [] rfl
  refine ps_i (va_runV (As := []) (rest := []) ⟨hx, hb, hml, hown, hw0⟩ (m_thrown l dC dI qM 0 0 (-1) (.ref q_buffer) 0 0 (.ref q_gone) (.ref q_first) (.ref q_many) (.ref q_lengths) (.ref q_authors) (.ref q_sums) (.ref q_row) (.ref q_made) 0 (.ref q_base) 0 (.ref q_text) (-1) (-1) (.ref q_other) 0 (.ref q_piece) 0 0 0 0) (cwV 0 hw0 (gd_V 340 341 342 173 343 rfl rfl rfl rfl rfl) rfl rfl rfl (by decide +kernel) ⟨by decide +kernel, by decide +kernel⟩) (prV_R hPc hKc hN (va_recv hKc hPc (ci := 7) (q0 := 0) rfl rfl)) rfl rfl hl.1 rfl (lv_room (Nat.le_of_ble_eq_true rfl)) d_L_law_1169 ⟨by decide +kernel, by decide +kernel⟩) (fun r_14 hr_14 => ?_)
  obtain rfl : r_14 = 0 := hr_14
  refine lv_iload hx hb d_L_law_1172 (lv_at hl 1 rfl) ?_
  refine lv_icmp_eq (tgt := 1179) hx hb d_L_law_1174 (by decide) (fun _ => ?_) (fun h9 => absurd h9 (by decide +kernel))
  refine lv_iload hx hb d_L_law_1179 (lv_at hl 1 rfl) ?_
  refine lv_if_ne (tgt := 1196) hx hb d_L_law_1181 (by decide) (fun h9 => absurd h9 (by decide +kernel)) (fun _ => ?_)
  refine lv_aload_n hx hb d_L_law_1184 rfl (lv_at hl 3 rfl) ?_
  refine lv_iconst (v := 0) hx hb d_L_law_1185 (by decide) ?_
  refine va_lald hx hb hK hP 5 4 rfl rfl (by unfold vp_in; decide +kernel) d_L_law_1186 ?_
  refine lv_topl (fun x_15 ex_15 => ?_)
  obtain rfl : x_15 = (-1) := ex_15.trans (by rw [sb_cl0]; exact hu_7)
  clear ex_15
  refine lv_iload hx hb d_L_law_1187 (lv_at hl 0 rfl) ?_
  refine lv_i2l (v := (-1)) hx hb d_L_law_1189 (by decide +kernel) ?_
  refine W.lcmp hx hb d_L_law_1190 ?_
  refine lv_topi (fun x_16 ex_16 => ?_)
  obtain rfl : x_16 = 0 := ex_16.trans (by decide +kernel)
  clear ex_16
  refine lv_if_eq (tgt := 1196) hx hb d_L_law_1191 (by decide) (fun _ => ?_) (fun h9 => absurd h9 (by decide +kernel))
  refine lv_goto (tgt := 1332) hx hb d_L_law_1196 (by decide) ?_
  refine W.widen (k := 600002) (n := 7302232) (by decide +kernel) (by decide +kernel) ?_
  exact law_end l hl9 C0 _ _ hS ls (lv_sub hl [2, 6] rfl)
set_option maxHeartbeats 4000000 in
set_option maxRecDepth 100000 in
theorem law_case_15 {p : Program} {e : Env} {s : State} {m : MethodId} {below : List Frame} {meth : Method} {c : Code} (l : Launch) (hl9 : l.stackTraces = false) {b : Nat} {xs : Nat → Int32} (C0 : lw_At p s m meth c b 6 xs) {dC : Nat → ClassId} {dI : Nat → Nat → Nat} (qK qd qb qy qf qz qc qm qw qp qM q_buffer q_gone q_first q_many q_lengths q_authors q_sums q_row q_made q_base q_text q_other q_piece qo : Nat) (cD cB cB2 cS cO : ClassId) (gL : Nat → Int32) (hgL : ∀ i, i < 512 → gL i = (-1))  (hN : nw_ok s) (hTw : tw_ok s) (hK : va_K (dC, dI) vwCl [(cD, .object R_D), (cB, .byte), (cB2, .byte), (cS, .short), (cO, .long)] s) (H : Heap) (locs : List Loc) (hP : va_P (dC, dI) vwCl [(qK, .inr (0, [.ref qd, .ref qb, .ref qf, .ref qc, .ref qm, .ref qw, .ref qp, .int 0, .int (-1)])), (qd, .inl (cD, 8, .inr (.inr (.inr (.inr (fun _ => none)))))), (qb, .inr (1, [.ref qy, .int 0])), (qy, .inl (cB, 256, .inl (fun _ => 0))), (qf, .inr (1, [.ref qz, .int 0])), (qp, .inr (4, [.int 0, .int 0, .int 0])), (qM, .inr (7, [.int 0, .int 0, .int (-1), .ref q_buffer, .int 0, .int 0, .ref q_gone, .ref q_first, .ref q_many, .ref q_lengths, .ref q_authors, .ref q_sums, .ref q_row, .ref q_made, .int 0, .ref q_base, .int 0, .ref q_text, .int (-1), .int (-1), .ref q_other, .int 0, .ref q_piece, .int 0, .int 0, .int 0, .int 0])), (q_buffer, .inl (cB2, 256, .inl (fun _ => 0))), (q_lengths, .inl (cS, 512, .inl (gL))), (qo, .inl (cO, 1, .inr (.inl (fun _ => 0))))] H) (hD : va_D (fun q : Nat => s.heap.size ≤ q) [(qK, .inr (0, [.ref qd, .ref qb, .ref qf, .ref qc, .ref qm, .ref qw, .ref qp, .int 0, .int (-1)])), (qd, .inl (cD, 8, .inr (.inr (.inr (.inr (fun _ => none)))))), (qb, .inr (1, [.ref qy, .int 0])), (qy, .inl (cB, 256, .inl (fun _ => 0))), (qf, .inr (1, [.ref qz, .int 0])), (qp, .inr (4, [.int 0, .int 0, .int 0])), (qM, .inr (7, [.int 0, .int 0, .int (-1), .ref q_buffer, .int 0, .int 0, .ref q_gone, .ref q_first, .ref q_many, .ref q_lengths, .ref q_authors, .ref q_sums, .ref q_row, .ref q_made, .int 0, .ref q_base, .int 0, .ref q_text, .int (-1), .int (-1), .ref q_other, .int 0, .ref q_piece, .int 0, .int 0, .int 0, .int 0])), (q_buffer, .inl (cB2, 256, .inl (fun _ => 0))), (q_lengths, .inl (cS, 512, .inl (gL))), (qo, .inl (cO, 1, .inr (.inl (fun _ => 0))))]) (hS : va_S (fun q : Nat => s.heap.size ≤ q) s.heap H locs) (ls : Array Slot) (hl : lv_has ls 7 [(4, .int 0), (3, .ref qo), (2, .ref qM), (1, .ref qK), (0, .ref b)]) : W p l e room_1 s m #[Value.ref b] below meth c H locs 32 26000 (lw_Z below #[Value.ref b] s) (F0 m 1199 ls []) := by
  obtain ⟨hx, hb, hr, hml, hown, hts, hX, hbl, hlocks, hgv⟩ := id C0
  have hw0 : ∀ w ∈ w0, w.before #[Value.ref b] s = true := fun w h => hts w (w0_ok w h).1
  have hA : ∀ q : Nat, s.heap.size ≤ q → (fun q : Nat => s.heap.size ≤ q) q := fun _ h => h
  have hbA : ¬ (fun q : Nat => s.heap.size ≤ q) b := Nat.not_le.mpr hbl
  refine lv_aload_n hx hb d_L_law_1199 rfl (lv_at hl 3 rfl) ?_
  refine lv_aload_n hx hb d_L_law_1200 rfl (lv_at hl 1 rfl) ?_
  have hPc := hP.sub (ws' := [(qK, .inr (0, [.ref qd, .ref qb, .ref qf, .ref qc, .ref qm, .ref qw, .ref qp, .int 0, .int (-1)])), (qp, .inr (4, [.int 0, .int 0, .int 0])), (qd, .inl (cD, 8, .inr (.inr (.inr (.inr (fun _ => none)))))), (qo, .inl (cO, 1, .inr (.inl ((fun _ => 0)))))]) [0, 5, 1, 9] rfl
  have hKc := hK.sub (tys' := [(cD, .object R_D), (cO, .long)]) [0, 4] rfl
  have hDc := hD.sub (ws' := [(qK, .inr (0, [.ref qd, .ref qb, .ref qf, .ref qc, .ref qm, .ref qw, .ref qp, .int 0, .int (-1)])), (qp, .inr (4, [.int 0, .int 0, .int 0])), (qd, .inl (cD, 8, .inr (.inr (.inr (.inr (fun _ => none)))))), (qo, .inl (cO, 1, .inr (.inl ((fun _ => 0)))))]) [0, 5, 1, 9] (by decide) rfl
  have hFc := va_free (wc := [(qK, .inr (0, [.ref qd, .ref qb, .ref qf, .ref qc, .ref qm, .ref qw, .ref qp, .int 0, .int (-1)])), (qp, .inr (4, [.int 0, .int 0, .int 0])), (qd, .inl (cD, 8, .inr (.inr (.inr (.inr (fun _ => none)))))), (qo, .inl (cO, 1, .inr (.inl ((fun _ => 0)))))]) hD hS hA [0, 5, 1, 9] rfl
  refine va_calli (va_runSW (As := [.ref qK, .ref qo]) (rest := []) ⟨hx, hb, hml, hown, hw0⟩ (w_freeBlocks l dC dI H.size qK (.ref qb) (.ref qf) (.ref qc) (.ref qm) (.ref qw) 0 (-1) qp 0 0 qd cD qo cO (fun _ => 0)) (csw_of 2 hw0 442 443 444 335 rfl rfl rfl rfl rfl rfl (by decide +kernel) ⟨by decide +kernel, by decide +kernel⟩) (prS_E hPc hKc hDc hN) rfl rfl hl.1 rfl (lv_room (Nat.le_of_ble_eq_true rfl)) d_L_law_1201 ⟨by decide +kernel, by decide +kernel⟩) hS (fun q _ h => hFc q h) hFc (fun r_1 u t H1 locs ht hvm hw hB hz1 hk1 hS => ?_)
  obtain ⟨g_2, hu_3, hP1, hK1, hD1⟩ := hB
  rw [ht] at hP1
  have hK1 := va_K.moved hvm.symm hK1
  try dsimp only at hw
  obtain ⟨hP, hD⟩ := va_join (wr := [(qb, .inr (1, [.ref qy, .int 0])), (qy, .inl (cB, 256, .inl (fun _ => 0))), (qf, .inr (1, [.ref qz, .int 0])), (qM, .inr (7, [.int 0, .int 0, .int (-1), .ref q_buffer, .int 0, .int 0, .ref q_gone, .ref q_first, .ref q_many, .ref q_lengths, .ref q_authors, .ref q_sums, .ref q_row, .ref q_made, .int 0, .ref q_base, .int 0, .ref q_text, .int (-1), .int (-1), .ref q_other, .int 0, .ref q_piece, .int 0, .int 0, .int 0, .int 0])), (q_buffer, .inl (cB2, 256, .inl (fun _ => 0))), (q_lengths, .inl (cS, 512, .inl (gL)))]) (w1 := [(qo, .inl (cO, 1, .inr (.inl (g_2))))]) hP hD [0, 5, 1, 9] [2, 3, 4, 6, 7, 8] rfl rfl (by decide) (by decide) hk1 hFc hP1 hD1
  generalize H1 = H at hP hS ⊢
  replace hP : va_P (dC, dI) vwCl [(qb, .inr (1, [.ref qy, .int 0])), (qy, .inl (cB, 256, .inl (fun _ => 0))), (qf, .inr (1, [.ref qz, .int 0])), (qM, .inr (7, [.int 0, .int 0, .int (-1), .ref q_buffer, .int 0, .int 0, .ref q_gone, .ref q_first, .ref q_many, .ref q_lengths, .ref q_authors, .ref q_sums, .ref q_row, .ref q_made, .int 0, .ref q_base, .int 0, .ref q_text, .int (-1), .int (-1), .ref q_other, .int 0, .ref q_piece, .int 0, .int 0, .int 0, .int 0])), (q_buffer, .inl (cB2, 256, .inl (fun _ => 0))), (q_lengths, .inl (cS, 512, .inl (gL))), (qo, .inl (cO, 1, .inr (.inl (g_2))))] H := hP
  replace hD : va_D (fun q : Nat => s.heap.size ≤ q) [(qb, .inr (1, [.ref qy, .int 0])), (qy, .inl (cB, 256, .inl (fun _ => 0))), (qf, .inr (1, [.ref qz, .int 0])), (qM, .inr (7, [.int 0, .int 0, .int (-1), .ref q_buffer, .int 0, .int 0, .ref q_gone, .ref q_first, .ref q_many, .ref q_lengths, .ref q_authors, .ref q_sums, .ref q_row, .ref q_made, .int 0, .ref q_base, .int 0, .ref q_text, .int (-1), .int (-1), .ref q_other, .int 0, .ref q_piece, .int 0, .int 0, .int 0, .int 0])), (q_buffer, .inl (cB2, 256, .inl (fun _ => 0))), (q_lengths, .inl (cS, 512, .inl (gL))), (qo, .inl (cO, 1, .inr (.inl (g_2))))] := hD
  replace hK : va_K (dC, dI) vwCl [(cD, .object R_D), (cB, .byte), (cB2, .byte), (cS, .short), (cO, .long)] s := hK
  obtain rfl : r_1 = 0 := hw
  refine lv_istore (lv' := [(5, .int 0), (4, .int 0), (3, .ref qo), (2, .ref qM), (1, .ref qK), (0, .ref b)]) hx hb d_L_law_1204 hl (by decide) rfl (fun ls hl => ?_)
  refine lv_aload_n hx hb d_L_law_1206 rfl (lv_at hl 3 rfl) ?_
  have hPc := hP.sub (ws' := [(qM, .inr (7, [.int 0, .int 0, .int (-1), .ref q_buffer, .int 0, .int 0, .ref q_gone, .ref q_first, .ref q_many, .ref q_lengths, .ref q_authors, .ref q_sums, .ref q_row, .ref q_made, .int 0, .ref q_base, .int 0, .ref q_text, .int (-1), .int (-1), .ref q_other, .int 0, .ref q_piece, .int 0, .int 0, .int 0, .int 0])), (q_lengths, .inl (cS, 512, .inl ((gL))))]) [3, 5] rfl
  have hKc := hK.sub (tys' := [(cS, .short)]) [3] rfl
  have hDc := hD.sub (ws' := [(qM, .inr (7, [.int 0, .int 0, .int (-1), .ref q_buffer, .int 0, .int 0, .ref q_gone, .ref q_first, .ref q_many, .ref q_lengths, .ref q_authors, .ref q_sums, .ref q_row, .ref q_made, .int 0, .ref q_base, .int 0, .ref q_text, .int (-1), .int (-1), .ref q_other, .int 0, .ref q_piece, .int 0, .int 0, .int 0, .int 0])), (q_lengths, .inl (cS, 512, .inl ((gL))))]) [3, 5] (by decide) rfl
  have hFc := va_free (wc := [(qM, .inr (7, [.int 0, .int 0, .int (-1), .ref q_buffer, .int 0, .int 0, .ref q_gone, .ref q_first, .ref q_many, .ref q_lengths, .ref q_authors, .ref q_sums, .ref q_row, .ref q_made, .int 0, .ref q_base, .int 0, .ref q_text, .int (-1), .int (-1), .ref q_other, .int 0, .ref q_piece, .int 0, .int 0, .int 0, .int 0])), (q_lengths, .inl (cS, 512, .inl ((gL))))]) hD hS hA [3, 5] rfl
  refine va_calli (va_runV (As := []) (rest := []) ⟨hx, hb, hml, hown, hw0⟩ (m_freeBlocks l dC dI H.size qM 0 (-1) (.ref q_buffer) 0 0 (.ref q_gone) (.ref q_first) (.ref q_many) (.ref q_authors) (.ref q_sums) (.ref q_row) (.ref q_made) 0 (.ref q_base) 0 (.ref q_text) (-1) (-1) (.ref q_other) 0 (.ref q_piece) 0 0 0 0 q_lengths cS (gL) (by first | assumption | decide | omega)) (cwV 0 hw0 (gd_V 445 446 447 173 448 rfl rfl rfl rfl rfl) rfl rfl rfl (by decide +kernel) ⟨by decide +kernel, by decide +kernel⟩) (prV_E hPc hKc hDc hN (va_recv hKc hPc (ci := 7) (q0 := 0) rfl rfl)) rfl rfl hl.1 rfl (lv_room (Nat.le_of_ble_eq_true rfl)) d_L_law_1207 ⟨by decide +kernel, by decide +kernel⟩) hS (fun q _ h => hFc q h) hFc (fun r_4 u t H1 locs ht hvm hw hB hz1 hk1 hS => ?_)
  obtain ⟨hP1, hK1, hD1⟩ := hB
  rw [ht] at hP1
  have hK1 := va_K.moved hvm.symm hK1
  try dsimp only at hw
  obtain ⟨hP, hD⟩ := va_join (wr := [(qb, .inr (1, [.ref qy, .int 0])), (qy, .inl (cB, 256, .inl (fun _ => 0))), (qf, .inr (1, [.ref qz, .int 0])), (q_buffer, .inl (cB2, 256, .inl (fun _ => 0))), (qo, .inl (cO, 1, .inr (.inl (g_2))))]) (w1 := [(qM, .inr (7, [.int 0, .int 0, .int (-1), .ref q_buffer, .int 0, .int 0, .ref q_gone, .ref q_first, .ref q_many, .ref q_lengths, .ref q_authors, .ref q_sums, .ref q_row, .ref q_made, .int 0, .ref q_base, .int 0, .ref q_text, .int (-1), .int (-1), .ref q_other, .int 0, .ref q_piece, .int 0, .int 0, .int 0, .int 0]))]) hP hD [3, 5] [0, 1, 2, 4, 6] rfl rfl (by decide) (by decide) hk1 hFc hP1 hD1
  generalize H1 = H at hP hS ⊢
  replace hP : va_P (dC, dI) vwCl [(qb, .inr (1, [.ref qy, .int 0])), (qy, .inl (cB, 256, .inl (fun _ => 0))), (qf, .inr (1, [.ref qz, .int 0])), (q_buffer, .inl (cB2, 256, .inl (fun _ => 0))), (qo, .inl (cO, 1, .inr (.inl (g_2)))), (qM, .inr (7, [.int 0, .int 0, .int (-1), .ref q_buffer, .int 0, .int 0, .ref q_gone, .ref q_first, .ref q_many, .ref q_lengths, .ref q_authors, .ref q_sums, .ref q_row, .ref q_made, .int 0, .ref q_base, .int 0, .ref q_text, .int (-1), .int (-1), .ref q_other, .int 0, .ref q_piece, .int 0, .int 0, .int 0, .int 0]))] H := hP
  replace hD : va_D (fun q : Nat => s.heap.size ≤ q) [(qb, .inr (1, [.ref qy, .int 0])), (qy, .inl (cB, 256, .inl (fun _ => 0))), (qf, .inr (1, [.ref qz, .int 0])), (q_buffer, .inl (cB2, 256, .inl (fun _ => 0))), (qo, .inl (cO, 1, .inr (.inl (g_2)))), (qM, .inr (7, [.int 0, .int 0, .int (-1), .ref q_buffer, .int 0, .int 0, .ref q_gone, .ref q_first, .ref q_many, .ref q_lengths, .ref q_authors, .ref q_sums, .ref q_row, .ref q_made, .int 0, .ref q_base, .int 0, .ref q_text, .int (-1), .int (-1), .ref q_other, .int 0, .ref q_piece, .int 0, .int 0, .int 0, .int 0]))] := hD
  replace hK : va_K (dC, dI) vwCl [(cD, .object R_D), (cB, .byte), (cB2, .byte), (cS, .short), (cO, .long)] s := hK
  obtain rfl : r_4 = 512 := hw
  refine lv_istore (lv' := [(6, .int 512), (5, .int 0), (4, .int 0), (3, .ref qo), (2, .ref qM), (1, .ref qK), (0, .ref b)]) hx hb d_L_law_1210 hl (by decide) rfl (fun ls hl => ?_)
  refine lv_aload_n hx hb d_L_law_1212 rfl (lv_at hl 4 rfl) ?_
  have hPc := hP.sub (ws' := [(qM, .inr (7, [.int 0, .int 0, .int (-1), .ref q_buffer, .int 0, .int 0, .ref q_gone, .ref q_first, .ref q_many, .ref q_lengths, .ref q_authors, .ref q_sums, .ref q_row, .ref q_made, .int 0, .ref q_base, .int 0, .ref q_text, .int (-1), .int (-1), .ref q_other, .int 0, .ref q_piece, .int 0, .int 0, .int 0, .int 0]))]) [5] rfl
  have hKc := hK.sub (tys' := []) [] rfl
  refine ps_i (va_runV (As := []) (rest := []) ⟨hx, hb, hml, hown, hw0⟩ (m_thrown l dC dI qM 0 0 (-1) (.ref q_buffer) 0 0 (.ref q_gone) (.ref q_first) (.ref q_many) (.ref q_lengths) (.ref q_authors) (.ref q_sums) (.ref q_row) (.ref q_made) 0 (.ref q_base) 0 (.ref q_text) (-1) (-1) (.ref q_other) 0 (.ref q_piece) 0 0 0 0) (cwV 0 hw0 (gd_V 340 341 342 173 343 rfl rfl rfl rfl rfl) rfl rfl rfl (by decide +kernel) ⟨by decide +kernel, by decide +kernel⟩) (prV_R hPc hKc hN (va_recv hKc hPc (ci := 7) (q0 := 0) rfl rfl)) rfl rfl hl.1 rfl (lv_room (Nat.le_of_ble_eq_true rfl)) d_L_law_1213 ⟨by decide +kernel, by decide +kernel⟩) (fun r_6 hr_6 => ?_)
  obtain rfl : r_6 = 0 := hr_6
  refine lv_iload hx hb d_L_law_1216 (lv_at hl 1 rfl) ?_
  refine lv_icmp_eq (tgt := 1223) hx hb d_L_law_1218 (by decide) (fun _ => ?_) (fun h9 => absurd h9 (by decide +kernel))
  refine lv_iload hx hb d_L_law_1223 (lv_at hl 1 rfl) ?_
  refine lv_if_ne (tgt := 1240) hx hb d_L_law_1225 (by decide) (fun h9 => absurd h9 (by decide +kernel)) (fun _ => ?_)
  refine lv_aload_n hx hb d_L_law_1228 rfl (lv_at hl 3 rfl) ?_
  refine lv_iconst (v := 0) hx hb d_L_law_1229 (by decide) ?_
  refine va_lald hx hb hK hP 4 4 rfl rfl (by unfold vp_in; decide +kernel) d_L_law_1230 ?_
  refine lv_topl (fun x_7 ex_7 => ?_)
  obtain rfl : x_7 = 512 := ex_7.trans (by rw [sb_cl0]; exact hu_3)
  clear ex_7
  refine lv_iload hx hb d_L_law_1231 (lv_at hl 0 rfl) ?_
  refine lv_i2l (v := 512) hx hb d_L_law_1233 (by decide +kernel) ?_
  refine W.lcmp hx hb d_L_law_1234 ?_
  refine lv_topi (fun x_8 ex_8 => ?_)
  obtain rfl : x_8 = 0 := ex_8.trans (by decide +kernel)
  clear ex_8
  refine lv_if_eq (tgt := 1240) hx hb d_L_law_1235 (by decide) (fun _ => ?_) (fun h9 => absurd h9 (by decide +kernel))
  refine lv_goto (tgt := 1332) hx hb d_L_law_1240 (by decide) ?_
  refine W.widen (k := 600002) (n := 7302232) (by decide +kernel) (by decide +kernel) ?_
  exact law_end l hl9 C0 _ _ hS ls (lv_sub hl [2, 6] rfl)
set_option maxHeartbeats 4000000 in
set_option maxRecDepth 100000 in
theorem law_case_16_T {p : Program} {e : Env} {s : State} {m : MethodId} {below : List Frame} {meth : Method} {c : Code} (l : Launch) (hl9 : l.stackTraces = false) {b : Nat} {xs : Nat → Int32} (C0 : lw_At p s m meth c b 6 xs) {dC : Nat → ClassId} {dI : Nat → Nat → Nat} (qK qd qb qy qf qz qc qm qw qp qM q_buffer q_gone q_first q_many q_lengths q_authors q_sums q_row q_made q_base q_text q_other q_piece qo : Nat) (cD cB cB2 cS cO : ClassId) (gL : Nat → Int32) (hgL : ∀ i, i < 512 → gL i = (-1)) (h1 : ¬ (xs (Int32.toNatClampNeg 1)) < 0) (hN : nw_ok s) (hTw : tw_ok s) (hK : va_K (dC, dI) vwCl [(cD, .object R_D), (cB, .byte), (cB2, .byte), (cS, .short), (cO, .long)] s) (H : Heap) (locs : List Loc) (hP : va_P (dC, dI) vwCl [(qK, .inr (0, [.ref qd, .ref qb, .ref qf, .ref qc, .ref qm, .ref qw, .ref qp, .int 0, .int (-1)])), (qd, .inl (cD, 8, .inr (.inr (.inr (.inr (fun _ => none)))))), (qb, .inr (1, [.ref qy, .int 0])), (qy, .inl (cB, 256, .inl (fun _ => 0))), (qf, .inr (1, [.ref qz, .int 0])), (qp, .inr (4, [.int 0, .int 0, .int 0])), (qM, .inr (7, [.int 0, .int 0, .int (-1), .ref q_buffer, .int 0, .int 0, .ref q_gone, .ref q_first, .ref q_many, .ref q_lengths, .ref q_authors, .ref q_sums, .ref q_row, .ref q_made, .int 0, .ref q_base, .int 0, .ref q_text, .int (-1), .int (-1), .ref q_other, .int 0, .ref q_piece, .int 0, .int 0, .int 0, .int 0])), (q_buffer, .inl (cB2, 256, .inl (fun _ => 0))), (q_lengths, .inl (cS, 512, .inl (gL))), (qo, .inl (cO, 1, .inr (.inl (fun _ => 0))))] H) (hD : va_D (fun q : Nat => s.heap.size ≤ q) [(qK, .inr (0, [.ref qd, .ref qb, .ref qf, .ref qc, .ref qm, .ref qw, .ref qp, .int 0, .int (-1)])), (qd, .inl (cD, 8, .inr (.inr (.inr (.inr (fun _ => none)))))), (qb, .inr (1, [.ref qy, .int 0])), (qy, .inl (cB, 256, .inl (fun _ => 0))), (qf, .inr (1, [.ref qz, .int 0])), (qp, .inr (4, [.int 0, .int 0, .int 0])), (qM, .inr (7, [.int 0, .int 0, .int (-1), .ref q_buffer, .int 0, .int 0, .ref q_gone, .ref q_first, .ref q_many, .ref q_lengths, .ref q_authors, .ref q_sums, .ref q_row, .ref q_made, .int 0, .ref q_base, .int 0, .ref q_text, .int (-1), .int (-1), .ref q_other, .int 0, .ref q_piece, .int 0, .int 0, .int 0, .int 0])), (q_buffer, .inl (cB2, 256, .inl (fun _ => 0))), (q_lengths, .inl (cS, 512, .inl (gL))), (qo, .inl (cO, 1, .inr (.inl (fun _ => 0))))]) (hS : va_S (fun q : Nat => s.heap.size ≤ q) s.heap H locs) (ls : Array Slot) (hl : lv_has ls 7 [(4, .int 0), (3, .ref qo), (2, .ref qM), (1, .ref qK), (0, .ref b)]) : W p l e room_1 s m #[Value.ref b] below meth c H locs 32 26000 (lw_Z below #[Value.ref b] s) (F0 m 1243 ls []) := by
  obtain ⟨hx, hb, hr, hml, hown, hts, hX, hbl, hlocks, hgv⟩ := id C0
  have hw0 : ∀ w ∈ w0, w.before #[Value.ref b] s = true := fun w h => hts w (w0_ok w h).1
  have hA : ∀ q : Nat, s.heap.size ≤ q → (fun q : Nat => s.heap.size ≤ q) q := fun _ h => h
  have hbA : ¬ (fun q : Nat => s.heap.size ≤ q) b := Nat.not_le.mpr hbl
  refine lv_aload_n hx hb d_L_law_1243 rfl (lv_at hl 3 rfl) ?_
  refine lv_aload_n hx hb d_L_law_1244 rfl (lv_at hl 4 rfl) ?_
  refine lv_iload hx hb d_L_law_1245 (lv_at hl 0 rfl) ?_
  refine lv_iconst (v := 1) hx hb d_L_law_1247 (by decide) ?_
  refine lv_iadd hx hb d_L_law_1248 ?_
  refine lv_topi (fun x_1 ex_1 => ?_)
  obtain rfl : x_1 = 1 := ex_1.trans (by decide +kernel)
  clear ex_1
  refine va_sld hx hb hX hbl hbA hS (by unfold vp_in; decide +kernel) d_L_law_1249 ?_
  refine lv_aload_n hx hb d_L_law_1250 rfl (lv_at hl 1 rfl) ?_
  have hPc := hP.sub (ws' := [(qK, .inr (0, [.ref qd, .ref qb, .ref qf, .ref qc, .ref qm, .ref qw, .ref qp, .int 0, .int (-1)])), (qp, .inr (4, [.int 0, .int 0, .int 0])), (qo, .inl (cO, 1, .inr (.inl ((fun _ => 0)))))]) [0, 5, 9] rfl
  have hKc := hK.sub (tys' := [(cO, .long)]) [4] rfl
  have hDc := hD.sub (ws' := [(qK, .inr (0, [.ref qd, .ref qb, .ref qf, .ref qc, .ref qm, .ref qw, .ref qp, .int 0, .int (-1)])), (qp, .inr (4, [.int 0, .int 0, .int 0])), (qo, .inl (cO, 1, .inr (.inl ((fun _ => 0)))))]) [0, 5, 9] (by decide) rfl
  have hFc := va_free (wc := [(qK, .inr (0, [.ref qd, .ref qb, .ref qf, .ref qc, .ref qm, .ref qw, .ref qp, .int 0, .int (-1)])), (qp, .inr (4, [.int 0, .int 0, .int 0])), (qo, .inl (cO, 1, .inr (.inl ((fun _ => 0)))))]) hD hS hA [0, 5, 9] rfl
  refine va_calli (va_runSW (As := [.ref qK, .int (xs (Int32.toNatClampNeg 1)), .ref qo]) (rest := []) ⟨hx, hb, hml, hown, hw0⟩ (w_cutAfter_T l dC dI H.size qK (.ref qd) (.ref qb) (.ref qf) (.ref qc) (.ref qm) (.ref qw) 0 (-1) qp 0 0 (xs (Int32.toNatClampNeg 1)) qo cO (fun _ => 0) (by first | assumption | decide | omega)) (csw_of 3 hw0 449 450 451 335 rfl rfl rfl rfl rfl rfl (by decide +kernel) ⟨by decide +kernel, by decide +kernel⟩) (prS_E hPc hKc hDc hN) rfl rfl hl.1 rfl (lv_room (Nat.le_of_ble_eq_true rfl)) d_L_law_1251 ⟨by decide +kernel, by decide +kernel⟩) hS (fun q _ h => hFc q h) hFc (fun r_2 u t H1 locs ht hvm hw hB hz1 hk1 hS => ?_)
  obtain ⟨g_3, hu_4, hP1, hK1, hD1⟩ := hB
  rw [ht] at hP1
  have hK1 := va_K.moved hvm.symm hK1
  try dsimp only at hw
  obtain ⟨hP, hD⟩ := va_join (wr := [(qd, .inl (cD, 8, .inr (.inr (.inr (.inr (fun _ => none)))))), (qb, .inr (1, [.ref qy, .int 0])), (qy, .inl (cB, 256, .inl (fun _ => 0))), (qf, .inr (1, [.ref qz, .int 0])), (qM, .inr (7, [.int 0, .int 0, .int (-1), .ref q_buffer, .int 0, .int 0, .ref q_gone, .ref q_first, .ref q_many, .ref q_lengths, .ref q_authors, .ref q_sums, .ref q_row, .ref q_made, .int 0, .ref q_base, .int 0, .ref q_text, .int (-1), .int (-1), .ref q_other, .int 0, .ref q_piece, .int 0, .int 0, .int 0, .int 0])), (q_buffer, .inl (cB2, 256, .inl (fun _ => 0))), (q_lengths, .inl (cS, 512, .inl (gL)))]) (w1 := [(qo, .inl (cO, 1, .inr (.inl (g_3))))]) hP hD [0, 5, 9] [1, 2, 3, 4, 6, 7, 8] rfl rfl (by decide) (by decide) hk1 hFc hP1 hD1
  generalize H1 = H at hP hS ⊢
  replace hP : va_P (dC, dI) vwCl [(qd, .inl (cD, 8, .inr (.inr (.inr (.inr (fun _ => none)))))), (qb, .inr (1, [.ref qy, .int 0])), (qy, .inl (cB, 256, .inl (fun _ => 0))), (qf, .inr (1, [.ref qz, .int 0])), (qM, .inr (7, [.int 0, .int 0, .int (-1), .ref q_buffer, .int 0, .int 0, .ref q_gone, .ref q_first, .ref q_many, .ref q_lengths, .ref q_authors, .ref q_sums, .ref q_row, .ref q_made, .int 0, .ref q_base, .int 0, .ref q_text, .int (-1), .int (-1), .ref q_other, .int 0, .ref q_piece, .int 0, .int 0, .int 0, .int 0])), (q_buffer, .inl (cB2, 256, .inl (fun _ => 0))), (q_lengths, .inl (cS, 512, .inl (gL))), (qo, .inl (cO, 1, .inr (.inl (g_3))))] H := hP
  replace hD : va_D (fun q : Nat => s.heap.size ≤ q) [(qd, .inl (cD, 8, .inr (.inr (.inr (.inr (fun _ => none)))))), (qb, .inr (1, [.ref qy, .int 0])), (qy, .inl (cB, 256, .inl (fun _ => 0))), (qf, .inr (1, [.ref qz, .int 0])), (qM, .inr (7, [.int 0, .int 0, .int (-1), .ref q_buffer, .int 0, .int 0, .ref q_gone, .ref q_first, .ref q_many, .ref q_lengths, .ref q_authors, .ref q_sums, .ref q_row, .ref q_made, .int 0, .ref q_base, .int 0, .ref q_text, .int (-1), .int (-1), .ref q_other, .int 0, .ref q_piece, .int 0, .int 0, .int 0, .int 0])), (q_buffer, .inl (cB2, 256, .inl (fun _ => 0))), (q_lengths, .inl (cS, 512, .inl (gL))), (qo, .inl (cO, 1, .inr (.inl (g_3))))] := hD
  replace hK : va_K (dC, dI) vwCl [(cD, .object R_D), (cB, .byte), (cB2, .byte), (cS, .short), (cO, .long)] s := hK
  obtain rfl : r_2 = 0 := hw
  refine lv_istore (lv' := [(5, .int 0), (4, .int 0), (3, .ref qo), (2, .ref qM), (1, .ref qK), (0, .ref b)]) hx hb d_L_law_1254 hl (by decide) rfl (fun ls hl => ?_)
  refine lv_aload_n hx hb d_L_law_1256 rfl (lv_at hl 3 rfl) ?_
  refine lv_aload_n hx hb d_L_law_1257 rfl (lv_at hl 5 rfl) ?_
  refine lv_iload hx hb d_L_law_1258 (lv_at hl 1 rfl) ?_
  refine lv_iconst (v := 1) hx hb d_L_law_1260 (by decide) ?_
  refine lv_iadd hx hb d_L_law_1261 ?_
  refine lv_topi (fun x_5 ex_5 => ?_)
  obtain rfl : x_5 = 1 := ex_5.trans (by decide +kernel)
  clear ex_5
  refine va_sld hx hb hX hbl hbA hS (by unfold vp_in; decide +kernel) d_L_law_1262 ?_
  have hPc := hP.sub (ws' := [(qM, .inr (7, [.int 0, .int 0, .int (-1), .ref q_buffer, .int 0, .int 0, .ref q_gone, .ref q_first, .ref q_many, .ref q_lengths, .ref q_authors, .ref q_sums, .ref q_row, .ref q_made, .int 0, .ref q_base, .int 0, .ref q_text, .int (-1), .int (-1), .ref q_other, .int 0, .ref q_piece, .int 0, .int 0, .int 0, .int 0]))]) [4] rfl
  have hKc := hK.sub (tys' := []) [] rfl
  have hDc := hD.sub (ws' := [(qM, .inr (7, [.int 0, .int 0, .int (-1), .ref q_buffer, .int 0, .int 0, .ref q_gone, .ref q_first, .ref q_many, .ref q_lengths, .ref q_authors, .ref q_sums, .ref q_row, .ref q_made, .int 0, .ref q_base, .int 0, .ref q_text, .int (-1), .int (-1), .ref q_other, .int 0, .ref q_piece, .int 0, .int 0, .int 0, .int 0]))]) [4] (by decide) rfl
  have hFc := va_free (wc := [(qM, .inr (7, [.int 0, .int 0, .int (-1), .ref q_buffer, .int 0, .int 0, .ref q_gone, .ref q_first, .ref q_many, .ref q_lengths, .ref q_authors, .ref q_sums, .ref q_row, .ref q_made, .int 0, .ref q_base, .int 0, .ref q_text, .int (-1), .int (-1), .ref q_other, .int 0, .ref q_piece, .int 0, .int 0, .int 0, .int 0]))]) hD hS hA [4] rfl
  refine va_calli (va_runV (As := [.int (xs (Int32.toNatClampNeg 1))]) (rest := []) ⟨hx, hb, hml, hown, hw0⟩ (m_cutAfter_T l dC dI H.size qM 0 (-1) (.ref q_buffer) 0 0 (.ref q_gone) (.ref q_first) (.ref q_many) (.ref q_lengths) (.ref q_authors) (.ref q_sums) (.ref q_row) (.ref q_made) 0 (.ref q_base) 0 (.ref q_text) (-1) (-1) (.ref q_other) 0 (.ref q_piece) 0 0 0 0 (xs (Int32.toNatClampNeg 1)) (by first | assumption | decide | omega)) (cwV 1 hw0 (gd_V 452 453 454 173 455 rfl rfl rfl rfl rfl) rfl rfl rfl (by decide +kernel) ⟨by decide +kernel, by decide +kernel⟩) (prV_E hPc hKc hDc hN (va_recv hKc hPc (ci := 7) (q0 := 0) rfl rfl)) rfl rfl hl.1 rfl (lv_room (Nat.le_of_ble_eq_true rfl)) d_L_law_1263 ⟨by decide +kernel, by decide +kernel⟩) hS (fun q _ h => hFc q h) hFc (fun r_6 u t H1 locs ht hvm hw hB hz1 hk1 hS => ?_)
  obtain ⟨hP1, hK1, hD1⟩ := hB
  rw [ht] at hP1
  have hK1 := va_K.moved hvm.symm hK1
  try dsimp only at hw
  obtain ⟨hP, hD⟩ := va_join (wr := [(qd, .inl (cD, 8, .inr (.inr (.inr (.inr (fun _ => none)))))), (qb, .inr (1, [.ref qy, .int 0])), (qy, .inl (cB, 256, .inl (fun _ => 0))), (qf, .inr (1, [.ref qz, .int 0])), (q_buffer, .inl (cB2, 256, .inl (fun _ => 0))), (q_lengths, .inl (cS, 512, .inl (gL))), (qo, .inl (cO, 1, .inr (.inl (g_3))))]) (w1 := [(qM, .inr (7, [.int 0, .int 0, .int (xs (Int32.toNatClampNeg 1)), .ref q_buffer, .int 0, .int 0, .ref q_gone, .ref q_first, .ref q_many, .ref q_lengths, .ref q_authors, .ref q_sums, .ref q_row, .ref q_made, .int 0, .ref q_base, .int 0, .ref q_text, .int (-1), .int (-1), .ref q_other, .int 0, .ref q_piece, .int 0, .int 0, .int 0, .int 0]))]) hP hD [4] [0, 1, 2, 3, 5, 6, 7] rfl rfl (by decide) (by decide) hk1 hFc hP1 hD1
  generalize H1 = H at hP hS ⊢
  replace hP : va_P (dC, dI) vwCl [(qd, .inl (cD, 8, .inr (.inr (.inr (.inr (fun _ => none)))))), (qb, .inr (1, [.ref qy, .int 0])), (qy, .inl (cB, 256, .inl (fun _ => 0))), (qf, .inr (1, [.ref qz, .int 0])), (q_buffer, .inl (cB2, 256, .inl (fun _ => 0))), (q_lengths, .inl (cS, 512, .inl (gL))), (qo, .inl (cO, 1, .inr (.inl (g_3)))), (qM, .inr (7, [.int 0, .int 0, .int (xs (Int32.toNatClampNeg 1)), .ref q_buffer, .int 0, .int 0, .ref q_gone, .ref q_first, .ref q_many, .ref q_lengths, .ref q_authors, .ref q_sums, .ref q_row, .ref q_made, .int 0, .ref q_base, .int 0, .ref q_text, .int (-1), .int (-1), .ref q_other, .int 0, .ref q_piece, .int 0, .int 0, .int 0, .int 0]))] H := hP
  replace hD : va_D (fun q : Nat => s.heap.size ≤ q) [(qd, .inl (cD, 8, .inr (.inr (.inr (.inr (fun _ => none)))))), (qb, .inr (1, [.ref qy, .int 0])), (qy, .inl (cB, 256, .inl (fun _ => 0))), (qf, .inr (1, [.ref qz, .int 0])), (q_buffer, .inl (cB2, 256, .inl (fun _ => 0))), (q_lengths, .inl (cS, 512, .inl (gL))), (qo, .inl (cO, 1, .inr (.inl (g_3)))), (qM, .inr (7, [.int 0, .int 0, .int (xs (Int32.toNatClampNeg 1)), .ref q_buffer, .int 0, .int 0, .ref q_gone, .ref q_first, .ref q_many, .ref q_lengths, .ref q_authors, .ref q_sums, .ref q_row, .ref q_made, .int 0, .ref q_base, .int 0, .ref q_text, .int (-1), .int (-1), .ref q_other, .int 0, .ref q_piece, .int 0, .int 0, .int 0, .int 0]))] := hD
  replace hK : va_K (dC, dI) vwCl [(cD, .object R_D), (cB, .byte), (cB2, .byte), (cS, .short), (cO, .long)] s := hK
  obtain rfl : r_6 = 1 := hw
  refine lv_istore (lv' := [(6, .int 1), (5, .int 0), (4, .int 0), (3, .ref qo), (2, .ref qM), (1, .ref qK), (0, .ref b)]) hx hb d_L_law_1266 hl (by decide) rfl (fun ls hl => ?_)
  refine lv_aload_n hx hb d_L_law_1268 rfl (lv_at hl 4 rfl) ?_
  have hPc := hP.sub (ws' := [(qM, .inr (7, [.int 0, .int 0, .int (xs (Int32.toNatClampNeg 1)), .ref q_buffer, .int 0, .int 0, .ref q_gone, .ref q_first, .ref q_many, .ref q_lengths, .ref q_authors, .ref q_sums, .ref q_row, .ref q_made, .int 0, .ref q_base, .int 0, .ref q_text, .int (-1), .int (-1), .ref q_other, .int 0, .ref q_piece, .int 0, .int 0, .int 0, .int 0]))]) [7] rfl
  have hKc := hK.sub (tys' := []) [] rfl
  refine ps_i (va_runV (As := []) (rest := []) ⟨hx, hb, hml, hown, hw0⟩ (m_thrown l dC dI qM 0 0 (xs (Int32.toNatClampNeg 1)) (.ref q_buffer) 0 0 (.ref q_gone) (.ref q_first) (.ref q_many) (.ref q_lengths) (.ref q_authors) (.ref q_sums) (.ref q_row) (.ref q_made) 0 (.ref q_base) 0 (.ref q_text) (-1) (-1) (.ref q_other) 0 (.ref q_piece) 0 0 0 0) (cwV 0 hw0 (gd_V 340 341 342 173 343 rfl rfl rfl rfl rfl) rfl rfl rfl (by decide +kernel) ⟨by decide +kernel, by decide +kernel⟩) (prV_R hPc hKc hN (va_recv hKc hPc (ci := 7) (q0 := 0) rfl rfl)) rfl rfl hl.1 rfl (lv_room (Nat.le_of_ble_eq_true rfl)) d_L_law_1269 ⟨by decide +kernel, by decide +kernel⟩) (fun r_8 hr_8 => ?_)
  obtain rfl : r_8 = 0 := hr_8
  refine lv_iload hx hb d_L_law_1272 (lv_at hl 1 rfl) ?_
  refine lv_icmp_eq (tgt := 1279) hx hb d_L_law_1274 (by decide) (fun _ => ?_) (fun h9 => absurd h9 (by decide +kernel))
  refine lv_iload hx hb d_L_law_1279 (lv_at hl 1 rfl) ?_
  refine lv_if_ne (tgt := 1303) hx hb d_L_law_1281 (by decide) (fun h9 => absurd h9 (by decide +kernel)) (fun _ => ?_)
  refine lv_aload_n hx hb d_L_law_1284 rfl (lv_at hl 3 rfl) ?_
  refine lv_iconst (v := 0) hx hb d_L_law_1285 (by decide) ?_
  refine va_lald hx hb hK hP 6 4 rfl rfl (by unfold vp_in; decide +kernel) d_L_law_1286 ?_
  refine lv_topl (fun x_9 ex_9 => ?_)
  obtain rfl : x_9 = 1 := ex_9.trans (by rw [sb_cl0]; exact hu_4)
  clear ex_9
  refine lv_iload hx hb d_L_law_1287 (lv_at hl 0 rfl) ?_
  refine lv_if_eq (tgt := 1296) hx hb d_L_law_1289 (by decide) (fun h9 => absurd h9 (by decide +kernel)) (fun _ => ?_)
  refine lv_lconst (v := 1) hx hb d_L_law_1292 (by decide) ?_
  refine lv_goto (tgt := 1297) hx hb d_L_law_1293 (by decide) ?_
  refine W.lcmp hx hb d_L_law_1297 ?_
  refine lv_topi (fun x_10 ex_10 => ?_)
  obtain rfl : x_10 = 0 := ex_10.trans (by decide +kernel)
  clear ex_10
  refine lv_if_eq (tgt := 1303) hx hb d_L_law_1298 (by decide) (fun _ => ?_) (fun h9 => absurd h9 (by decide +kernel))
  refine lv_goto (tgt := 1332) hx hb d_L_law_1303 (by decide) ?_
  refine W.widen (k := 600002) (n := 7302232) (by decide +kernel) (by decide +kernel) ?_
  exact law_end l hl9 C0 _ _ hS ls (lv_sub hl [2, 6] rfl)
