set_option maxHeartbeats 4000000 in
set_option maxRecDepth 100000 in
theorem law_case_0 {p : Program} {e : Env} {s : State} {m : MethodId} {below : List Frame} {meth : Method} {c : Code} (l : Launch) (hl9 : l.stackTraces = false) {b : Nat} {xs : Nat → Int32} (C0 : lw_At p s m meth c b 6 xs) {dC : Nat → ClassId} {dI : Nat → Nat → Nat} (qK qd qb qy qf qz qc qm qw qp qM q_buffer q_gone q_first q_many q_lengths q_authors q_sums q_row q_made q_base q_text q_other q_piece qo : Nat) (cD cB cB2 cS cO : ClassId) (gL : Nat → Int32) (hgL : ∀ i, i < 512 → gL i = (-1))  (hN : nw_ok s) (hTw : tw_ok s) (hK : va_K (dC, dI) vwCl [(cD, .object R_D), (cB, .byte), (cB2, .byte), (cS, .short), (cO, .long)] s) (H : Heap) (locs : List Loc) (hP : va_P (dC, dI) vwCl [(qK, .inr (0, [.ref qd, .ref qb, .ref qf, .ref qc, .ref qm, .ref qw, .ref qp, .int 0, .int (-1)])), (qd, .inl (cD, 8, .inr (.inr (.inr (.inr (fun _ => none)))))), (qb, .inr (1, [.ref qy, .int 0])), (qy, .inl (cB, 256, .inl (fun _ => 0))), (qf, .inr (1, [.ref qz, .int 0])), (qp, .inr (4, [.int 0, .int 0, .int 0])), (qM, .inr (7, [.int 0, .int 0, .int (-1), .ref q_buffer, .int 0, .int 0, .ref q_gone, .ref q_first, .ref q_many, .ref q_lengths, .ref q_authors, .ref q_sums, .ref q_row, .ref q_made, .int 0, .ref q_base, .int 0, .ref q_text, .int (-1), .int (-1), .ref q_other, .int 0, .ref q_piece, .int 0, .int 0, .int 0, .int 0])), (q_buffer, .inl (cB2, 256, .inl (fun _ => 0))), (q_lengths, .inl (cS, 512, .inl (gL))), (qo, .inl (cO, 1, .inr (.inl (fun _ => 0))))] H) (hD : va_D (fun q : Nat => s.heap.size ≤ q) [(qK, .inr (0, [.ref qd, .ref qb, .ref qf, .ref qc, .ref qm, .ref qw, .ref qp, .int 0, .int (-1)])), (qd, .inl (cD, 8, .inr (.inr (.inr (.inr (fun _ => none)))))), (qb, .inr (1, [.ref qy, .int 0])), (qy, .inl (cB, 256, .inl (fun _ => 0))), (qf, .inr (1, [.ref qz, .int 0])), (qp, .inr (4, [.int 0, .int 0, .int 0])), (qM, .inr (7, [.int 0, .int 0, .int (-1), .ref q_buffer, .int 0, .int 0, .ref q_gone, .ref q_first, .ref q_many, .ref q_lengths, .ref q_authors, .ref q_sums, .ref q_row, .ref q_made, .int 0, .ref q_base, .int 0, .ref q_text, .int (-1), .int (-1), .ref q_other, .int 0, .ref q_piece, .int 0, .int 0, .int 0, .int 0])), (q_buffer, .inl (cB2, 256, .inl (fun _ => 0))), (q_lengths, .inl (cS, 512, .inl (gL))), (qo, .inl (cO, 1, .inr (.inl (fun _ => 0))))]) (hS : va_S (fun q : Nat => s.heap.size ≤ q) s.heap H locs) (ls : Array Slot) (hl : lv_has ls 7 [(4, .int 0), (3, .ref qo), (2, .ref qM), (1, .ref qK), (0, .ref b)]) : W p l e room_1 s m #[Value.ref b] below meth c H locs 32 26000 (lw_Z below #[Value.ref b] s) (F0 m 132 ls []) := by
  obtain ⟨hx, hb, hr, hml, hown, hts, hX, hbl, hlocks, hgv⟩ := id C0
  have hw0 : ∀ w ∈ w0, w.before #[Value.ref b] s = true := fun w h => hts w (w0_ok w h).1
  have hA : ∀ q : Nat, s.heap.size ≤ q → (fun q : Nat => s.heap.size ≤ q) q := fun _ h => h
  have hbA : ¬ (fun q : Nat => s.heap.size ≤ q) b := Nat.not_le.mpr hbl
  refine lv_aload_n hx hb d_L_law_132 rfl (lv_at hl 3 rfl) ?_
  refine lv_aload_n hx hb d_L_law_133 rfl (lv_at hl 4 rfl) ?_
  refine lv_iload hx hb d_L_law_134 (lv_at hl 0 rfl) ?_
  refine lv_iconst (v := 1) hx hb d_L_law_136 (by decide) ?_
  refine lv_iadd hx hb d_L_law_137 ?_
  refine lv_topi (fun x_1 ex_1 => ?_)
  obtain rfl : x_1 = 1 := ex_1.trans (by decide +kernel)
  clear ex_1
  refine va_sld hx hb hX hbl hbA hS (by unfold vp_in; decide +kernel) d_L_law_138 ?_
  refine lv_aload_n hx hb d_L_law_139 rfl (lv_at hl 4 rfl) ?_
  refine lv_iload hx hb d_L_law_140 (lv_at hl 0 rfl) ?_
  refine lv_iconst (v := 2) hx hb d_L_law_142 (by decide) ?_
  refine lv_iadd hx hb d_L_law_143 ?_
  refine lv_topi (fun x_2 ex_2 => ?_)
  obtain rfl : x_2 = 2 := ex_2.trans (by decide +kernel)
  clear ex_2
  refine va_sld hx hb hX hbl hbA hS (by unfold vp_in; decide +kernel) d_L_law_144 ?_
  refine lv_aload_n hx hb d_L_law_145 rfl (lv_at hl 4 rfl) ?_
  refine lv_iload hx hb d_L_law_146 (lv_at hl 0 rfl) ?_
  refine lv_iconst (v := 3) hx hb d_L_law_148 (by decide) ?_
  refine lv_iadd hx hb d_L_law_149 ?_
  refine lv_topi (fun x_3 ex_3 => ?_)
  obtain rfl : x_3 = 3 := ex_3.trans (by decide +kernel)
  clear ex_3
  refine va_sld hx hb hX hbl hbA hS (by unfold vp_in; decide +kernel) d_L_law_150 ?_
  refine lv_aload_n hx hb d_L_law_151 rfl (lv_at hl 4 rfl) ?_
  refine lv_iload hx hb d_L_law_152 (lv_at hl 0 rfl) ?_
  refine lv_iconst (v := 4) hx hb d_L_law_154 (by decide) ?_
  refine lv_iadd hx hb d_L_law_155 ?_
  refine lv_topi (fun x_4 ex_4 => ?_)
  obtain rfl : x_4 = 4 := ex_4.trans (by decide +kernel)
  clear ex_4
  refine va_sld hx hb hX hbl hbA hS (by unfold vp_in; decide +kernel) d_L_law_156 ?_
  refine lv_aload_n hx hb d_L_law_157 rfl (lv_at hl 4 rfl) ?_
  refine lv_iload hx hb d_L_law_158 (lv_at hl 0 rfl) ?_
  refine lv_iconst (v := 5) hx hb d_L_law_160 (by decide) ?_
  refine lv_iadd hx hb d_L_law_161 ?_
  refine lv_topi (fun x_5 ex_5 => ?_)
  obtain rfl : x_5 = 5 := ex_5.trans (by decide +kernel)
  clear ex_5
  refine va_sld hx hb hX hbl hbA hS (by unfold vp_in; decide +kernel) d_L_law_162 ?_
  refine lv_aload_n hx hb d_L_law_163 rfl (lv_at hl 1 rfl) ?_
  have hPc := hP.sub (ws' := [(qK, .inr (0, [.ref qd, .ref qb, .ref qf, .ref qc, .ref qm, .ref qw, .ref qp, .int 0, .int (-1)])), (qp, .inr (4, [.int 0, .int 0, .int 0])), (qb, .inr (1, [.ref qy, .int 0])), (qy, .inl (cB, 256, .inl ((fun _ => 0)))), (qo, .inl (cO, 1, .inr (.inl ((fun _ => 0)))))]) [0, 5, 2, 3, 9] rfl
  have hKc := hK.sub (tys' := [(cB, .byte), (cO, .long)]) [1, 4] rfl
  have hDc := hD.sub (ws' := [(qK, .inr (0, [.ref qd, .ref qb, .ref qf, .ref qc, .ref qm, .ref qw, .ref qp, .int 0, .int (-1)])), (qp, .inr (4, [.int 0, .int 0, .int 0])), (qb, .inr (1, [.ref qy, .int 0])), (qy, .inl (cB, 256, .inl ((fun _ => 0)))), (qo, .inl (cO, 1, .inr (.inl ((fun _ => 0)))))]) [0, 5, 2, 3, 9] (by decide) rfl
  have hFc := va_free (wc := [(qK, .inr (0, [.ref qd, .ref qb, .ref qf, .ref qc, .ref qm, .ref qw, .ref qp, .int 0, .int (-1)])), (qp, .inr (4, [.int 0, .int 0, .int 0])), (qb, .inr (1, [.ref qy, .int 0])), (qy, .inl (cB, 256, .inl ((fun _ => 0)))), (qo, .inl (cO, 1, .inr (.inl ((fun _ => 0)))))]) hD hS hA [0, 5, 2, 3, 9] rfl
  refine va_calli (va_runSW (As := [.ref qK, .int (xs (Int32.toNatClampNeg 1)), .int (xs (Int32.toNatClampNeg 2)), .int (xs (Int32.toNatClampNeg 3)), .int (xs (Int32.toNatClampNeg 4)), .int (xs (Int32.toNatClampNeg 5)), .ref qo]) (rest := []) ⟨hx, hb, hml, hown, hw0⟩ (w_feed l dC dI H.size qK (.ref qd) (.ref qf) (.ref qc) (.ref qm) (.ref qw) 0 (-1) qp 0 0 qb qy cB (fun _ => 0) (xs (Int32.toNatClampNeg 1)) (xs (Int32.toNatClampNeg 2)) (xs (Int32.toNatClampNeg 3)) (xs (Int32.toNatClampNeg 4)) (xs (Int32.toNatClampNeg 5)) qo cO (fun _ => 0)) (csw_of 7 hw0 332 333 334 335 rfl rfl rfl rfl rfl rfl (by decide +kernel) ⟨by decide +kernel, by decide +kernel⟩) (prS_E hPc hKc hDc hN) rfl rfl hl.1 rfl (lv_room (Nat.le_of_ble_eq_true rfl)) d_L_law_164 ⟨by decide +kernel, by decide +kernel⟩) hS (fun q _ h => hFc q h) hFc (fun r_6 u t H1 locs ht hvm hw hB hz1 hk1 hS => ?_)
  obtain ⟨g_7, hu_8, hP1, hK1, hD1⟩ := hB
  rw [ht] at hP1
  have hK1 := va_K.moved hvm.symm hK1
  try dsimp only at hw
  obtain ⟨hP, hD⟩ := va_join (wr := [(qd, .inl (cD, 8, .inr (.inr (.inr (.inr (fun _ => none)))))), (qf, .inr (1, [.ref qz, .int 0])), (qM, .inr (7, [.int 0, .int 0, .int (-1), .ref q_buffer, .int 0, .int 0, .ref q_gone, .ref q_first, .ref q_many, .ref q_lengths, .ref q_authors, .ref q_sums, .ref q_row, .ref q_made, .int 0, .ref q_base, .int 0, .ref q_text, .int (-1), .int (-1), .ref q_other, .int 0, .ref q_piece, .int 0, .int 0, .int 0, .int 0])), (q_buffer, .inl (cB2, 256, .inl (fun _ => 0))), (q_lengths, .inl (cS, 512, .inl (gL)))]) (w1 := [(qo, .inl (cO, 1, .inr (.inl (g_7))))]) hP hD [0, 5, 2, 3, 9] [1, 4, 6, 7, 8] rfl rfl (by decide) (by decide) hk1 hFc hP1 hD1
  generalize H1 = H at hP hS ⊢
  replace hP : va_P (dC, dI) vwCl [(qd, .inl (cD, 8, .inr (.inr (.inr (.inr (fun _ => none)))))), (qf, .inr (1, [.ref qz, .int 0])), (qM, .inr (7, [.int 0, .int 0, .int (-1), .ref q_buffer, .int 0, .int 0, .ref q_gone, .ref q_first, .ref q_many, .ref q_lengths, .ref q_authors, .ref q_sums, .ref q_row, .ref q_made, .int 0, .ref q_base, .int 0, .ref q_text, .int (-1), .int (-1), .ref q_other, .int 0, .ref q_piece, .int 0, .int 0, .int 0, .int 0])), (q_buffer, .inl (cB2, 256, .inl (fun _ => 0))), (q_lengths, .inl (cS, 512, .inl (gL))), (qo, .inl (cO, 1, .inr (.inl (g_7))))] H := hP
  replace hD : va_D (fun q : Nat => s.heap.size ≤ q) [(qd, .inl (cD, 8, .inr (.inr (.inr (.inr (fun _ => none)))))), (qf, .inr (1, [.ref qz, .int 0])), (qM, .inr (7, [.int 0, .int 0, .int (-1), .ref q_buffer, .int 0, .int 0, .ref q_gone, .ref q_first, .ref q_many, .ref q_lengths, .ref q_authors, .ref q_sums, .ref q_row, .ref q_made, .int 0, .ref q_base, .int 0, .ref q_text, .int (-1), .int (-1), .ref q_other, .int 0, .ref q_piece, .int 0, .int 0, .int 0, .int 0])), (q_buffer, .inl (cB2, 256, .inl (fun _ => 0))), (q_lengths, .inl (cS, 512, .inl (gL))), (qo, .inl (cO, 1, .inr (.inl (g_7))))] := hD
  replace hK : va_K (dC, dI) vwCl [(cD, .object R_D), (cB, .byte), (cB2, .byte), (cS, .short), (cO, .long)] s := hK
  obtain rfl : r_6 = 0 := hw
  refine lv_istore (lv' := [(5, .int 0), (4, .int 0), (3, .ref qo), (2, .ref qM), (1, .ref qK), (0, .ref b)]) hx hb d_L_law_167 hl (by decide) rfl (fun ls hl => ?_)
  refine lv_aload_n hx hb d_L_law_169 rfl (lv_at hl 3 rfl) ?_
  refine lv_aload_n hx hb d_L_law_170 rfl (lv_at hl 5 rfl) ?_
  refine lv_iload hx hb d_L_law_171 (lv_at hl 1 rfl) ?_
  refine lv_iconst (v := 1) hx hb d_L_law_173 (by decide) ?_
  refine lv_iadd hx hb d_L_law_174 ?_
  refine lv_topi (fun x_9 ex_9 => ?_)
  obtain rfl : x_9 = 1 := ex_9.trans (by decide +kernel)
  clear ex_9
  refine va_sld hx hb hX hbl hbA hS (by unfold vp_in; decide +kernel) d_L_law_175 ?_
  refine lv_aload_n hx hb d_L_law_176 rfl (lv_at hl 5 rfl) ?_
  refine lv_iload hx hb d_L_law_177 (lv_at hl 1 rfl) ?_
  refine lv_iconst (v := 2) hx hb d_L_law_179 (by decide) ?_
  refine lv_iadd hx hb d_L_law_180 ?_
  refine lv_topi (fun x_10 ex_10 => ?_)
  obtain rfl : x_10 = 2 := ex_10.trans (by decide +kernel)
  clear ex_10
  refine va_sld hx hb hX hbl hbA hS (by unfold vp_in; decide +kernel) d_L_law_181 ?_
  refine lv_aload_n hx hb d_L_law_182 rfl (lv_at hl 5 rfl) ?_
  refine lv_iload hx hb d_L_law_183 (lv_at hl 1 rfl) ?_
  refine lv_iconst (v := 3) hx hb d_L_law_185 (by decide) ?_
  refine lv_iadd hx hb d_L_law_186 ?_
  refine lv_topi (fun x_11 ex_11 => ?_)
  obtain rfl : x_11 = 3 := ex_11.trans (by decide +kernel)
  clear ex_11
  refine va_sld hx hb hX hbl hbA hS (by unfold vp_in; decide +kernel) d_L_law_187 ?_
  refine lv_aload_n hx hb d_L_law_188 rfl (lv_at hl 5 rfl) ?_
  refine lv_iload hx hb d_L_law_189 (lv_at hl 1 rfl) ?_
  refine lv_iconst (v := 4) hx hb d_L_law_191 (by decide) ?_
  refine lv_iadd hx hb d_L_law_192 ?_
  refine lv_topi (fun x_12 ex_12 => ?_)
  obtain rfl : x_12 = 4 := ex_12.trans (by decide +kernel)
  clear ex_12
  refine va_sld hx hb hX hbl hbA hS (by unfold vp_in; decide +kernel) d_L_law_193 ?_
  refine lv_aload_n hx hb d_L_law_194 rfl (lv_at hl 5 rfl) ?_
  refine lv_iload hx hb d_L_law_195 (lv_at hl 1 rfl) ?_
  refine lv_iconst (v := 5) hx hb d_L_law_197 (by decide) ?_
  refine lv_iadd hx hb d_L_law_198 ?_
  refine lv_topi (fun x_13 ex_13 => ?_)
  obtain rfl : x_13 = 5 := ex_13.trans (by decide +kernel)
  clear ex_13
  refine va_sld hx hb hX hbl hbA hS (by unfold vp_in; decide +kernel) d_L_law_199 ?_
  have hPc := hP.sub (ws' := [(qM, .inr (7, [.int 0, .int 0, .int (-1), .ref q_buffer, .int 0, .int 0, .ref q_gone, .ref q_first, .ref q_many, .ref q_lengths, .ref q_authors, .ref q_sums, .ref q_row, .ref q_made, .int 0, .ref q_base, .int 0, .ref q_text, .int (-1), .int (-1), .ref q_other, .int 0, .ref q_piece, .int 0, .int 0, .int 0, .int 0])), (q_buffer, .inl (cB2, 256, .inl ((fun _ => 0))))]) [2, 3] rfl
  have hKc := hK.sub (tys' := [(cB2, .byte)]) [2] rfl
  have hDc := hD.sub (ws' := [(qM, .inr (7, [.int 0, .int 0, .int (-1), .ref q_buffer, .int 0, .int 0, .ref q_gone, .ref q_first, .ref q_many, .ref q_lengths, .ref q_authors, .ref q_sums, .ref q_row, .ref q_made, .int 0, .ref q_base, .int 0, .ref q_text, .int (-1), .int (-1), .ref q_other, .int 0, .ref q_piece, .int 0, .int 0, .int 0, .int 0])), (q_buffer, .inl (cB2, 256, .inl ((fun _ => 0))))]) [2, 3] (by decide) rfl
  have hFc := va_free (wc := [(qM, .inr (7, [.int 0, .int 0, .int (-1), .ref q_buffer, .int 0, .int 0, .ref q_gone, .ref q_first, .ref q_many, .ref q_lengths, .ref q_authors, .ref q_sums, .ref q_row, .ref q_made, .int 0, .ref q_base, .int 0, .ref q_text, .int (-1), .int (-1), .ref q_other, .int 0, .ref q_piece, .int 0, .int 0, .int 0, .int 0])), (q_buffer, .inl (cB2, 256, .inl ((fun _ => 0))))]) hD hS hA [2, 3] rfl
  refine va_calli (va_runV (As := [.int (xs (Int32.toNatClampNeg 1)), .int (xs (Int32.toNatClampNeg 2)), .int (xs (Int32.toNatClampNeg 3)), .int (xs (Int32.toNatClampNeg 4)), .int (xs (Int32.toNatClampNeg 5))]) (rest := []) ⟨hx, hb, hml, hown, hw0⟩ (m_feed l dC dI H.size qM 0 (-1) 0 (.ref q_gone) (.ref q_first) (.ref q_many) (.ref q_lengths) (.ref q_authors) (.ref q_sums) (.ref q_row) (.ref q_made) 0 (.ref q_base) 0 (.ref q_text) (-1) (-1) (.ref q_other) 0 (.ref q_piece) 0 0 0 0 q_buffer cB2 (fun _ => 0) (xs (Int32.toNatClampNeg 1)) (xs (Int32.toNatClampNeg 2)) (xs (Int32.toNatClampNeg 3)) (xs (Int32.toNatClampNeg 4)) (xs (Int32.toNatClampNeg 5))) (cwV 5 hw0 (gd_V 336 337 338 173 339 rfl rfl rfl rfl rfl) rfl rfl rfl (by decide +kernel) ⟨by decide +kernel, by decide +kernel⟩) (prV_E hPc hKc hDc hN (va_recv hKc hPc (ci := 7) (q0 := 0) rfl rfl)) rfl rfl hl.1 rfl (lv_room (Nat.le_of_ble_eq_true rfl)) d_L_law_200 ⟨by decide +kernel, by decide +kernel⟩) hS (fun q _ h => hFc q h) hFc (fun r_14 u t H1 locs ht hvm hw hB hz1 hk1 hS => ?_)
  obtain ⟨hP1, hK1, hD1⟩ := hB
  rw [ht] at hP1
  have hK1 := va_K.moved hvm.symm hK1
  try dsimp only at hw
  obtain ⟨hP, hD⟩ := va_join (wr := [(qd, .inl (cD, 8, .inr (.inr (.inr (.inr (fun _ => none)))))), (qf, .inr (1, [.ref qz, .int 0])), (q_lengths, .inl (cS, 512, .inl (gL))), (qo, .inl (cO, 1, .inr (.inl (g_7))))]) (w1 := [(qM, .inr (7, [.int 0, .int 0, .int (-1), .ref q_buffer, .int (nI 20), .int 0, .ref q_gone, .ref q_first, .ref q_many, .ref q_lengths, .ref q_authors, .ref q_sums, .ref q_row, .ref q_made, .int 0, .ref q_base, .int 0, .ref q_text, .int (-1), .int (-1), .ref q_other, .int 0, .ref q_piece, .int 0, .int 0, .int 0, .int 0]))]) hP hD [2, 3] [0, 1, 4, 5] rfl rfl (by decide) (by decide) hk1 hFc hP1 hD1
  generalize H1 = H at hP hS ⊢
  replace hP : va_P (dC, dI) vwCl [(qd, .inl (cD, 8, .inr (.inr (.inr (.inr (fun _ => none)))))), (qf, .inr (1, [.ref qz, .int 0])), (q_lengths, .inl (cS, 512, .inl (gL))), (qo, .inl (cO, 1, .inr (.inl (g_7)))), (qM, .inr (7, [.int 0, .int 0, .int (-1), .ref q_buffer, .int (nI 20), .int 0, .ref q_gone, .ref q_first, .ref q_many, .ref q_lengths, .ref q_authors, .ref q_sums, .ref q_row, .ref q_made, .int 0, .ref q_base, .int 0, .ref q_text, .int (-1), .int (-1), .ref q_other, .int 0, .ref q_piece, .int 0, .int 0, .int 0, .int 0]))] H := hP
  replace hD : va_D (fun q : Nat => s.heap.size ≤ q) [(qd, .inl (cD, 8, .inr (.inr (.inr (.inr (fun _ => none)))))), (qf, .inr (1, [.ref qz, .int 0])), (q_lengths, .inl (cS, 512, .inl (gL))), (qo, .inl (cO, 1, .inr (.inl (g_7)))), (qM, .inr (7, [.int 0, .int 0, .int (-1), .ref q_buffer, .int (nI 20), .int 0, .ref q_gone, .ref q_first, .ref q_many, .ref q_lengths, .ref q_authors, .ref q_sums, .ref q_row, .ref q_made, .int 0, .ref q_base, .int 0, .ref q_text, .int (-1), .int (-1), .ref q_other, .int 0, .ref q_piece, .int 0, .int 0, .int 0, .int 0]))] := hD
  replace hK : va_K (dC, dI) vwCl [(cD, .object R_D), (cB, .byte), (cB2, .byte), (cS, .short), (cO, .long)] s := hK
  obtain rfl : r_14 = 1 := hw
  refine lv_istore (lv' := [(6, .int 1), (5, .int 0), (4, .int 0), (3, .ref qo), (2, .ref qM), (1, .ref qK), (0, .ref b)]) hx hb d_L_law_203 hl (by decide) rfl (fun ls hl => ?_)
  refine lv_aload_n hx hb d_L_law_205 rfl (lv_at hl 4 rfl) ?_
  have hPc := hP.sub (ws' := [(qM, .inr (7, [.int 0, .int 0, .int (-1), .ref q_buffer, .int (nI 20), .int 0, .ref q_gone, .ref q_first, .ref q_many, .ref q_lengths, .ref q_authors, .ref q_sums, .ref q_row, .ref q_made, .int 0, .ref q_base, .int 0, .ref q_text, .int (-1), .int (-1), .ref q_other, .int 0, .ref q_piece, .int 0, .int 0, .int 0, .int 0]))]) [4] rfl
  have hKc := hK.sub (tys' := []) [] rfl
  refine ps_i (va_runV (As := []) (rest := []) ⟨hx, hb, hml, hown, hw0⟩ (m_thrown l dC dI qM 0 0 (-1) (.ref q_buffer) (nI 20) 0 (.ref q_gone) (.ref q_first) (.ref q_many) (.ref q_lengths) (.ref q_authors) (.ref q_sums) (.ref q_row) (.ref q_made) 0 (.ref q_base) 0 (.ref q_text) (-1) (-1) (.ref q_other) 0 (.ref q_piece) 0 0 0 0) (cwV 0 hw0 (gd_V 340 341 342 173 343 rfl rfl rfl rfl rfl) rfl rfl rfl (by decide +kernel) ⟨by decide +kernel, by decide +kernel⟩) (prV_R hPc hKc hN (va_recv hKc hPc (ci := 7) (q0 := 0) rfl rfl)) rfl rfl hl.1 rfl (lv_room (Nat.le_of_ble_eq_true rfl)) d_L_law_206 ⟨by decide +kernel, by decide +kernel⟩) (fun r_16 hr_16 => ?_)
  obtain rfl : r_16 = 0 := hr_16
  refine lv_iload hx hb d_L_law_209 (lv_at hl 1 rfl) ?_
  refine lv_icmp_eq (tgt := 216) hx hb d_L_law_211 (by decide) (fun _ => ?_) (fun h9 => absurd h9 (by decide +kernel))
  refine lv_iload hx hb d_L_law_216 (lv_at hl 1 rfl) ?_
  refine lv_if_ne (tgt := 240) hx hb d_L_law_218 (by decide) (fun h9 => absurd h9 (by decide +kernel)) (fun _ => ?_)
  refine lv_aload_n hx hb d_L_law_221 rfl (lv_at hl 3 rfl) ?_
  refine lv_iconst (v := 0) hx hb d_L_law_222 (by decide) ?_
  refine va_lald hx hb hK hP 3 4 rfl rfl (by unfold vp_in; decide +kernel) d_L_law_223 ?_
  refine lv_topl (fun x_17 ex_17 => ?_)
  obtain rfl : x_17 = 1 := ex_17.trans (by rw [sb_cl0]; exact hu_8)
  clear ex_17
  refine lv_iload hx hb d_L_law_224 (lv_at hl 0 rfl) ?_
  refine lv_if_eq (tgt := 233) hx hb d_L_law_226 (by decide) (fun h9 => absurd h9 (by decide +kernel)) (fun _ => ?_)
  refine lv_lconst (v := 1) hx hb d_L_law_229 (by decide) ?_
  refine lv_goto (tgt := 234) hx hb d_L_law_230 (by decide) ?_
  refine W.lcmp hx hb d_L_law_234 ?_
  refine lv_topi (fun x_18 ex_18 => ?_)
  obtain rfl : x_18 = 0 := ex_18.trans (by decide +kernel)
  clear ex_18
  refine lv_if_eq (tgt := 240) hx hb d_L_law_235 (by decide) (fun _ => ?_) (fun h9 => absurd h9 (by decide +kernel))
  refine lv_goto (tgt := 1332) hx hb d_L_law_240 (by decide) ?_
  refine W.widen (k := 600002) (n := 7302232) (by decide +kernel) (by decide +kernel) ?_
  exact law_end l hl9 C0 _ _ hS ls (lv_sub hl [2, 6] rfl)
set_option maxHeartbeats 4000000 in
set_option maxRecDepth 100000 in
theorem law_case_1_T {p : Program} {e : Env} {s : State} {m : MethodId} {below : List Frame} {meth : Method} {c : Code} (l : Launch) (hl9 : l.stackTraces = false) {b : Nat} {xs : Nat → Int32} (C0 : lw_At p s m meth c b 6 xs) {dC : Nat → ClassId} {dI : Nat → Nat → Nat} (qK qd qb qy qf qz qc qm qw qp qM q_buffer q_gone q_first q_many q_lengths q_authors q_sums q_row q_made q_base q_text q_other q_piece qo : Nat) (cD cB cB2 cS cO : ClassId) (gL : Nat → Int32) (hgL : ∀ i, i < 512 → gL i = (-1)) (h1 : ¬ (xs (Int32.toNatClampNeg 1)) < 0) (h2 : ¬ 0 < (xs (Int32.toNatClampNeg 1))) (hN : nw_ok s) (hTw : tw_ok s) (hK : va_K (dC, dI) vwCl [(cD, .object R_D), (cB, .byte), (cB2, .byte), (cS, .short), (cO, .long)] s) (H : Heap) (locs : List Loc) (hP : va_P (dC, dI) vwCl [(qK, .inr (0, [.ref qd, .ref qb, .ref qf, .ref qc, .ref qm, .ref qw, .ref qp, .int 0, .int (-1)])), (qd, .inl (cD, 8, .inr (.inr (.inr (.inr (fun _ => none)))))), (qb, .inr (1, [.ref qy, .int 0])), (qy, .inl (cB, 256, .inl (fun _ => 0))), (qf, .inr (1, [.ref qz, .int 0])), (qp, .inr (4, [.int 0, .int 0, .int 0])), (qM, .inr (7, [.int 0, .int 0, .int (-1), .ref q_buffer, .int 0, .int 0, .ref q_gone, .ref q_first, .ref q_many, .ref q_lengths, .ref q_authors, .ref q_sums, .ref q_row, .ref q_made, .int 0, .ref q_base, .int 0, .ref q_text, .int (-1), .int (-1), .ref q_other, .int 0, .ref q_piece, .int 0, .int 0, .int 0, .int 0])), (q_buffer, .inl (cB2, 256, .inl (fun _ => 0))), (q_lengths, .inl (cS, 512, .inl (gL))), (qo, .inl (cO, 1, .inr (.inl (fun _ => 0))))] H) (hD : va_D (fun q : Nat => s.heap.size ≤ q) [(qK, .inr (0, [.ref qd, .ref qb, .ref qf, .ref qc, .ref qm, .ref qw, .ref qp, .int 0, .int (-1)])), (qd, .inl (cD, 8, .inr (.inr (.inr (.inr (fun _ => none)))))), (qb, .inr (1, [.ref qy, .int 0])), (qy, .inl (cB, 256, .inl (fun _ => 0))), (qf, .inr (1, [.ref qz, .int 0])), (qp, .inr (4, [.int 0, .int 0, .int 0])), (qM, .inr (7, [.int 0, .int 0, .int (-1), .ref q_buffer, .int 0, .int 0, .ref q_gone, .ref q_first, .ref q_many, .ref q_lengths, .ref q_authors, .ref q_sums, .ref q_row, .ref q_made, .int 0, .ref q_base, .int 0, .ref q_text, .int (-1), .int (-1), .ref q_other, .int 0, .ref q_piece, .int 0, .int 0, .int 0, .int 0])), (q_buffer, .inl (cB2, 256, .inl (fun _ => 0))), (q_lengths, .inl (cS, 512, .inl (gL))), (qo, .inl (cO, 1, .inr (.inl (fun _ => 0))))]) (hS : va_S (fun q : Nat => s.heap.size ≤ q) s.heap H locs) (ls : Array Slot) (hl : lv_has ls 7 [(4, .int 0), (3, .ref qo), (2, .ref qM), (1, .ref qK), (0, .ref b)]) : W p l e room_1 s m #[Value.ref b] below meth c H locs 32 26000 (lw_Z below #[Value.ref b] s) (F0 m 243 ls []) := by
  obtain ⟨hx, hb, hr, hml, hown, hts, hX, hbl, hlocks, hgv⟩ := id C0
  have hw0 : ∀ w ∈ w0, w.before #[Value.ref b] s = true := fun w h => hts w (w0_ok w h).1
  have hA : ∀ q : Nat, s.heap.size ≤ q → (fun q : Nat => s.heap.size ≤ q) q := fun _ h => h
  have hbA : ¬ (fun q : Nat => s.heap.size ≤ q) b := Nat.not_le.mpr hbl
  refine lv_aload_n hx hb d_L_law_243 rfl (lv_at hl 3 rfl) ?_
  refine lv_aload_n hx hb d_L_law_244 rfl (lv_at hl 4 rfl) ?_
  refine lv_iload hx hb d_L_law_245 (lv_at hl 0 rfl) ?_
  refine lv_iconst (v := 1) hx hb d_L_law_247 (by decide) ?_
  refine lv_iadd hx hb d_L_law_248 ?_
  refine lv_topi (fun x_1 ex_1 => ?_)
  obtain rfl : x_1 = 1 := ex_1.trans (by decide +kernel)
  clear ex_1
  refine va_sld hx hb hX hbl hbA hS (by unfold vp_in; decide +kernel) d_L_law_249 ?_
  refine lv_aload_n hx hb d_L_law_250 rfl (lv_at hl 1 rfl) ?_
  have hPc := hP.sub (ws' := [(qK, .inr (0, [.ref qd, .ref qb, .ref qf, .ref qc, .ref qm, .ref qw, .ref qp, .int 0, .int (-1)])), (qp, .inr (4, [.int 0, .int 0, .int 0])), (qb, .inr (1, [.ref qy, .int 0])), (qo, .inl (cO, 1, .inr (.inl ((fun _ => 0)))))]) [0, 5, 2, 9] rfl
  have hKc := hK.sub (tys' := [(cO, .long)]) [4] rfl
  have hDc := hD.sub (ws' := [(qK, .inr (0, [.ref qd, .ref qb, .ref qf, .ref qc, .ref qm, .ref qw, .ref qp, .int 0, .int (-1)])), (qp, .inr (4, [.int 0, .int 0, .int 0])), (qb, .inr (1, [.ref qy, .int 0])), (qo, .inl (cO, 1, .inr (.inl ((fun _ => 0)))))]) [0, 5, 2, 9] (by decide) rfl
  have hFc := va_free (wc := [(qK, .inr (0, [.ref qd, .ref qb, .ref qf, .ref qc, .ref qm, .ref qw, .ref qp, .int 0, .int (-1)])), (qp, .inr (4, [.int 0, .int 0, .int 0])), (qb, .inr (1, [.ref qy, .int 0])), (qo, .inl (cO, 1, .inr (.inl ((fun _ => 0)))))]) hD hS hA [0, 5, 2, 9] rfl
  refine va_calli (va_runSW (As := [.ref qK, .int (xs (Int32.toNatClampNeg 1)), .ref qo]) (rest := []) ⟨hx, hb, hml, hown, hw0⟩ (w_end_T l dC dI H.size qK (.ref qd) (.ref qf) (.ref qc) (.ref qm) (.ref qw) 0 (-1) qp 0 0 qb (.ref qy) (xs (Int32.toNatClampNeg 1)) qo cO (fun _ => 0) (by first | assumption | decide | omega) (by first | assumption | decide | omega)) (csw_of 3 hw0 344 345 346 335 rfl rfl rfl rfl rfl rfl (by decide +kernel) ⟨by decide +kernel, by decide +kernel⟩) (prS_E hPc hKc hDc hN) rfl rfl hl.1 rfl (lv_room (Nat.le_of_ble_eq_true rfl)) d_L_law_251 ⟨by decide +kernel, by decide +kernel⟩) hS (fun q _ h => hFc q h) hFc (fun r_2 u t H1 locs ht hvm hw hB hz1 hk1 hS => ?_)
  obtain ⟨g_3, hu_4, hP1, hK1, hD1⟩ := hB
  rw [ht] at hP1
  have hK1 := va_K.moved hvm.symm hK1
  try dsimp only at hw
  obtain ⟨hP, hD⟩ := va_join (wr := [(qd, .inl (cD, 8, .inr (.inr (.inr (.inr (fun _ => none)))))), (qy, .inl (cB, 256, .inl (fun _ => 0))), (qf, .inr (1, [.ref qz, .int 0])), (qM, .inr (7, [.int 0, .int 0, .int (-1), .ref q_buffer, .int 0, .int 0, .ref q_gone, .ref q_first, .ref q_many, .ref q_lengths, .ref q_authors, .ref q_sums, .ref q_row, .ref q_made, .int 0, .ref q_base, .int 0, .ref q_text, .int (-1), .int (-1), .ref q_other, .int 0, .ref q_piece, .int 0, .int 0, .int 0, .int 0])), (q_buffer, .inl (cB2, 256, .inl (fun _ => 0))), (q_lengths, .inl (cS, 512, .inl (gL)))]) (w1 := [(qo, .inl (cO, 1, .inr (.inl (g_3))))]) hP hD [0, 5, 2, 9] [1, 3, 4, 6, 7, 8] rfl rfl (by decide) (by decide) hk1 hFc hP1 hD1
  generalize H1 = H at hP hS ⊢
  replace hP : va_P (dC, dI) vwCl [(qd, .inl (cD, 8, .inr (.inr (.inr (.inr (fun _ => none)))))), (qy, .inl (cB, 256, .inl (fun _ => 0))), (qf, .inr (1, [.ref qz, .int 0])), (qM, .inr (7, [.int 0, .int 0, .int (-1), .ref q_buffer, .int 0, .int 0, .ref q_gone, .ref q_first, .ref q_many, .ref q_lengths, .ref q_authors, .ref q_sums, .ref q_row, .ref q_made, .int 0, .ref q_base, .int 0, .ref q_text, .int (-1), .int (-1), .ref q_other, .int 0, .ref q_piece, .int 0, .int 0, .int 0, .int 0])), (q_buffer, .inl (cB2, 256, .inl (fun _ => 0))), (q_lengths, .inl (cS, 512, .inl (gL))), (qo, .inl (cO, 1, .inr (.inl (g_3))))] H := hP
  replace hD : va_D (fun q : Nat => s.heap.size ≤ q) [(qd, .inl (cD, 8, .inr (.inr (.inr (.inr (fun _ => none)))))), (qy, .inl (cB, 256, .inl (fun _ => 0))), (qf, .inr (1, [.ref qz, .int 0])), (qM, .inr (7, [.int 0, .int 0, .int (-1), .ref q_buffer, .int 0, .int 0, .ref q_gone, .ref q_first, .ref q_many, .ref q_lengths, .ref q_authors, .ref q_sums, .ref q_row, .ref q_made, .int 0, .ref q_base, .int 0, .ref q_text, .int (-1), .int (-1), .ref q_other, .int 0, .ref q_piece, .int 0, .int 0, .int 0, .int 0])), (q_buffer, .inl (cB2, 256, .inl (fun _ => 0))), (q_lengths, .inl (cS, 512, .inl (gL))), (qo, .inl (cO, 1, .inr (.inl (g_3))))] := hD
  replace hK : va_K (dC, dI) vwCl [(cD, .object R_D), (cB, .byte), (cB2, .byte), (cS, .short), (cO, .long)] s := hK
  obtain rfl : r_2 = 0 := hw
  refine lv_istore (lv' := [(5, .int 0), (4, .int 0), (3, .ref qo), (2, .ref qM), (1, .ref qK), (0, .ref b)]) hx hb d_L_law_254 hl (by decide) rfl (fun ls hl => ?_)
  refine lv_aload_n hx hb d_L_law_256 rfl (lv_at hl 3 rfl) ?_
  refine lv_aload_n hx hb d_L_law_257 rfl (lv_at hl 5 rfl) ?_
  refine lv_iload hx hb d_L_law_258 (lv_at hl 1 rfl) ?_
  refine lv_iconst (v := 1) hx hb d_L_law_260 (by decide) ?_
  refine lv_iadd hx hb d_L_law_261 ?_
  refine lv_topi (fun x_5 ex_5 => ?_)
  obtain rfl : x_5 = 1 := ex_5.trans (by decide +kernel)
  clear ex_5
  refine va_sld hx hb hX hbl hbA hS (by unfold vp_in; decide +kernel) d_L_law_262 ?_
  have hPc := hP.sub (ws' := [(qM, .inr (7, [.int 0, .int 0, .int (-1), .ref q_buffer, .int 0, .int 0, .ref q_gone, .ref q_first, .ref q_many, .ref q_lengths, .ref q_authors, .ref q_sums, .ref q_row, .ref q_made, .int 0, .ref q_base, .int 0, .ref q_text, .int (-1), .int (-1), .ref q_other, .int 0, .ref q_piece, .int 0, .int 0, .int 0, .int 0]))]) [3] rfl
  have hKc := hK.sub (tys' := []) [] rfl
  have hDc := hD.sub (ws' := [(qM, .inr (7, [.int 0, .int 0, .int (-1), .ref q_buffer, .int 0, .int 0, .ref q_gone, .ref q_first, .ref q_many, .ref q_lengths, .ref q_authors, .ref q_sums, .ref q_row, .ref q_made, .int 0, .ref q_base, .int 0, .ref q_text, .int (-1), .int (-1), .ref q_other, .int 0, .ref q_piece, .int 0, .int 0, .int 0, .int 0]))]) [3] (by decide) rfl
  have hFc := va_free (wc := [(qM, .inr (7, [.int 0, .int 0, .int (-1), .ref q_buffer, .int 0, .int 0, .ref q_gone, .ref q_first, .ref q_many, .ref q_lengths, .ref q_authors, .ref q_sums, .ref q_row, .ref q_made, .int 0, .ref q_base, .int 0, .ref q_text, .int (-1), .int (-1), .ref q_other, .int 0, .ref q_piece, .int 0, .int 0, .int 0, .int 0]))]) hD hS hA [3] rfl
  refine va_calli (va_runV (As := [.int (xs (Int32.toNatClampNeg 1))]) (rest := []) ⟨hx, hb, hml, hown, hw0⟩ (m_end_T l dC dI H.size qM 0 (-1) (.ref q_buffer) 0 (.ref q_gone) (.ref q_first) (.ref q_many) (.ref q_lengths) (.ref q_authors) (.ref q_sums) (.ref q_row) (.ref q_made) 0 (.ref q_base) 0 (.ref q_text) (-1) (-1) (.ref q_other) 0 (.ref q_piece) 0 0 0 0 (xs (Int32.toNatClampNeg 1)) (by first | assumption | decide | omega) (by first | assumption | decide | omega)) (cwV 1 hw0 (gd_V 347 348 349 173 350 rfl rfl rfl rfl rfl) rfl rfl rfl (by decide +kernel) ⟨by decide +kernel, by decide +kernel⟩) (prV_E hPc hKc hDc hN (va_recv hKc hPc (ci := 7) (q0 := 0) rfl rfl)) rfl rfl hl.1 rfl (lv_room (Nat.le_of_ble_eq_true rfl)) d_L_law_263 ⟨by decide +kernel, by decide +kernel⟩) hS (fun q _ h => hFc q h) hFc (fun r_6 u t H1 locs ht hvm hw hB hz1 hk1 hS => ?_)
  obtain ⟨hP1, hK1, hD1⟩ := hB
  rw [ht] at hP1
  have hK1 := va_K.moved hvm.symm hK1
  try dsimp only at hw
  obtain ⟨hP, hD⟩ := va_join (wr := [(qd, .inl (cD, 8, .inr (.inr (.inr (.inr (fun _ => none)))))), (qy, .inl (cB, 256, .inl (fun _ => 0))), (qf, .inr (1, [.ref qz, .int 0])), (q_buffer, .inl (cB2, 256, .inl (fun _ => 0))), (q_lengths, .inl (cS, 512, .inl (gL))), (qo, .inl (cO, 1, .inr (.inl (g_3))))]) (w1 := [(qM, .inr (7, [.int 0, .int 0, .int (-1), .ref q_buffer, .int (xs (Int32.toNatClampNeg 1)), .int 0, .ref q_gone, .ref q_first, .ref q_many, .ref q_lengths, .ref q_authors, .ref q_sums, .ref q_row, .ref q_made, .int 0, .ref q_base, .int 0, .ref q_text, .int (-1), .int (-1), .ref q_other, .int 0, .ref q_piece, .int 0, .int 0, .int 0, .int 0]))]) hP hD [3] [0, 1, 2, 4, 5, 6] rfl rfl (by decide) (by decide) hk1 hFc hP1 hD1
  generalize H1 = H at hP hS ⊢
  replace hP : va_P (dC, dI) vwCl [(qd, .inl (cD, 8, .inr (.inr (.inr (.inr (fun _ => none)))))), (qy, .inl (cB, 256, .inl (fun _ => 0))), (qf, .inr (1, [.ref qz, .int 0])), (q_buffer, .inl (cB2, 256, .inl (fun _ => 0))), (q_lengths, .inl (cS, 512, .inl (gL))), (qo, .inl (cO, 1, .inr (.inl (g_3)))), (qM, .inr (7, [.int 0, .int 0, .int (-1), .ref q_buffer, .int (xs (Int32.toNatClampNeg 1)), .int 0, .ref q_gone, .ref q_first, .ref q_many, .ref q_lengths, .ref q_authors, .ref q_sums, .ref q_row, .ref q_made, .int 0, .ref q_base, .int 0, .ref q_text, .int (-1), .int (-1), .ref q_other, .int 0, .ref q_piece, .int 0, .int 0, .int 0, .int 0]))] H := hP
  replace hD : va_D (fun q : Nat => s.heap.size ≤ q) [(qd, .inl (cD, 8, .inr (.inr (.inr (.inr (fun _ => none)))))), (qy, .inl (cB, 256, .inl (fun _ => 0))), (qf, .inr (1, [.ref qz, .int 0])), (q_buffer, .inl (cB2, 256, .inl (fun _ => 0))), (q_lengths, .inl (cS, 512, .inl (gL))), (qo, .inl (cO, 1, .inr (.inl (g_3)))), (qM, .inr (7, [.int 0, .int 0, .int (-1), .ref q_buffer, .int (xs (Int32.toNatClampNeg 1)), .int 0, .ref q_gone, .ref q_first, .ref q_many, .ref q_lengths, .ref q_authors, .ref q_sums, .ref q_row, .ref q_made, .int 0, .ref q_base, .int 0, .ref q_text, .int (-1), .int (-1), .ref q_other, .int 0, .ref q_piece, .int 0, .int 0, .int 0, .int 0]))] := hD
  replace hK : va_K (dC, dI) vwCl [(cD, .object R_D), (cB, .byte), (cB2, .byte), (cS, .short), (cO, .long)] s := hK
  obtain rfl : r_6 = 1 := hw
  refine lv_istore (lv' := [(6, .int 1), (5, .int 0), (4, .int 0), (3, .ref qo), (2, .ref qM), (1, .ref qK), (0, .ref b)]) hx hb d_L_law_266 hl (by decide) rfl (fun ls hl => ?_)
  refine lv_aload_n hx hb d_L_law_268 rfl (lv_at hl 4 rfl) ?_
  have hPc := hP.sub (ws' := [(qM, .inr (7, [.int 0, .int 0, .int (-1), .ref q_buffer, .int (xs (Int32.toNatClampNeg 1)), .int 0, .ref q_gone, .ref q_first, .ref q_many, .ref q_lengths, .ref q_authors, .ref q_sums, .ref q_row, .ref q_made, .int 0, .ref q_base, .int 0, .ref q_text, .int (-1), .int (-1), .ref q_other, .int 0, .ref q_piece, .int 0, .int 0, .int 0, .int 0]))]) [6] rfl
  have hKc := hK.sub (tys' := []) [] rfl
  refine ps_i (va_runV (As := []) (rest := []) ⟨hx, hb, hml, hown, hw0⟩ (m_thrown l dC dI qM 0 0 (-1) (.ref q_buffer) (xs (Int32.toNatClampNeg 1)) 0 (.ref q_gone) (.ref q_first) (.ref q_many) (.ref q_lengths) (.ref q_authors) (.ref q_sums) (.ref q_row) (.ref q_made) 0 (.ref q_base) 0 (.ref q_text) (-1) (-1) (.ref q_other) 0 (.ref q_piece) 0 0 0 0) (cwV 0 hw0 (gd_V 340 341 342 173 343 rfl rfl rfl rfl rfl) rfl rfl rfl (by decide +kernel) ⟨by decide +kernel, by decide +kernel⟩) (prV_R hPc hKc hN (va_recv hKc hPc (ci := 7) (q0 := 0) rfl rfl)) rfl rfl hl.1 rfl (lv_room (Nat.le_of_ble_eq_true rfl)) d_L_law_269 ⟨by decide +kernel, by decide +kernel⟩) (fun r_8 hr_8 => ?_)
  obtain rfl : r_8 = 0 := hr_8
  refine lv_iload hx hb d_L_law_272 (lv_at hl 1 rfl) ?_
  refine lv_icmp_eq (tgt := 279) hx hb d_L_law_274 (by decide) (fun _ => ?_) (fun h9 => absurd h9 (by decide +kernel))
  refine lv_iload hx hb d_L_law_279 (lv_at hl 1 rfl) ?_
  refine lv_if_ne (tgt := 303) hx hb d_L_law_281 (by decide) (fun h9 => absurd h9 (by decide +kernel)) (fun _ => ?_)
  refine lv_aload_n hx hb d_L_law_284 rfl (lv_at hl 3 rfl) ?_
  refine lv_iconst (v := 0) hx hb d_L_law_285 (by decide) ?_
  refine va_lald hx hb hK hP 5 4 rfl rfl (by unfold vp_in; decide +kernel) d_L_law_286 ?_
  refine lv_topl (fun x_9 ex_9 => ?_)
  obtain rfl : x_9 = 1 := ex_9.trans (by rw [sb_cl0]; exact hu_4)
  clear ex_9
  refine lv_iload hx hb d_L_law_287 (lv_at hl 0 rfl) ?_
  refine lv_if_eq (tgt := 296) hx hb d_L_law_289 (by decide) (fun h9 => absurd h9 (by decide +kernel)) (fun _ => ?_)
  refine lv_lconst (v := 1) hx hb d_L_law_292 (by decide) ?_
  refine lv_goto (tgt := 297) hx hb d_L_law_293 (by decide) ?_
  refine W.lcmp hx hb d_L_law_297 ?_
  refine lv_topi (fun x_10 ex_10 => ?_)
  obtain rfl : x_10 = 0 := ex_10.trans (by decide +kernel)
  clear ex_10
  refine lv_if_eq (tgt := 303) hx hb d_L_law_298 (by decide) (fun _ => ?_) (fun h9 => absurd h9 (by decide +kernel))
  refine lv_goto (tgt := 1332) hx hb d_L_law_303 (by decide) ?_
  refine W.widen (k := 600002) (n := 7302232) (by decide +kernel) (by decide +kernel) ?_
  exact law_end l hl9 C0 _ _ hS ls (lv_sub hl [2, 6] rfl)
set_option maxHeartbeats 4000000 in
set_option maxRecDepth 100000 in
theorem law_case_1_F {p : Program} {e : Env} {s : State} {m : MethodId} {below : List Frame} {meth : Method} {c : Code} (l : Launch) (hl9 : l.stackTraces = false) {b : Nat} {xs : Nat → Int32} (C0 : lw_At p s m meth c b 6 xs) {dC : Nat → ClassId} {dI : Nat → Nat → Nat} (qK qd qb qy qf qz qc qm qw qp qM q_buffer q_gone q_first q_many q_lengths q_authors q_sums q_row q_made q_base q_text q_other q_piece qo : Nat) (cD cB cB2 cS cO : ClassId) (gL : Nat → Int32) (hgL : ∀ i, i < 512 → gL i = (-1)) (h1 : (xs (Int32.toNatClampNeg 1)) < 0 ∨ 0 < (xs (Int32.toNatClampNeg 1))) (hN : nw_ok s) (hTw : tw_ok s) (hK : va_K (dC, dI) vwCl [(cD, .object R_D), (cB, .byte), (cB2, .byte), (cS, .short), (cO, .long)] s) (H : Heap) (locs : List Loc) (hP : va_P (dC, dI) vwCl [(qK, .inr (0, [.ref qd, .ref qb, .ref qf, .ref qc, .ref qm, .ref qw, .ref qp, .int 0, .int (-1)])), (qd, .inl (cD, 8, .inr (.inr (.inr (.inr (fun _ => none)))))), (qb, .inr (1, [.ref qy, .int 0])), (qy, .inl (cB, 256, .inl (fun _ => 0))), (qf, .inr (1, [.ref qz, .int 0])), (qp, .inr (4, [.int 0, .int 0, .int 0])), (qM, .inr (7, [.int 0, .int 0, .int (-1), .ref q_buffer, .int 0, .int 0, .ref q_gone, .ref q_first, .ref q_many, .ref q_lengths, .ref q_authors, .ref q_sums, .ref q_row, .ref q_made, .int 0, .ref q_base, .int 0, .ref q_text, .int (-1), .int (-1), .ref q_other, .int 0, .ref q_piece, .int 0, .int 0, .int 0, .int 0])), (q_buffer, .inl (cB2, 256, .inl (fun _ => 0))), (q_lengths, .inl (cS, 512, .inl (gL))), (qo, .inl (cO, 1, .inr (.inl (fun _ => 0))))] H) (hD : va_D (fun q : Nat => s.heap.size ≤ q) [(qK, .inr (0, [.ref qd, .ref qb, .ref qf, .ref qc, .ref qm, .ref qw, .ref qp, .int 0, .int (-1)])), (qd, .inl (cD, 8, .inr (.inr (.inr (.inr (fun _ => none)))))), (qb, .inr (1, [.ref qy, .int 0])), (qy, .inl (cB, 256, .inl (fun _ => 0))), (qf, .inr (1, [.ref qz, .int 0])), (qp, .inr (4, [.int 0, .int 0, .int 0])), (qM, .inr (7, [.int 0, .int 0, .int (-1), .ref q_buffer, .int 0, .int 0, .ref q_gone, .ref q_first, .ref q_many, .ref q_lengths, .ref q_authors, .ref q_sums, .ref q_row, .ref q_made, .int 0, .ref q_base, .int 0, .ref q_text, .int (-1), .int (-1), .ref q_other, .int 0, .ref q_piece, .int 0, .int 0, .int 0, .int 0])), (q_buffer, .inl (cB2, 256, .inl (fun _ => 0))), (q_lengths, .inl (cS, 512, .inl (gL))), (qo, .inl (cO, 1, .inr (.inl (fun _ => 0))))]) (hS : va_S (fun q : Nat => s.heap.size ≤ q) s.heap H locs) (ls : Array Slot) (hl : lv_has ls 7 [(4, .int 0), (3, .ref qo), (2, .ref qM), (1, .ref qK), (0, .ref b)]) : W p l e room_1 s m #[Value.ref b] below meth c H locs 32 26000 (lw_Z below #[Value.ref b] s) (F0 m 243 ls []) := by
  obtain ⟨hx, hb, hr, hml, hown, hts, hX, hbl, hlocks, hgv⟩ := id C0
  have hw0 : ∀ w ∈ w0, w.before #[Value.ref b] s = true := fun w h => hts w (w0_ok w h).1
  have hA : ∀ q : Nat, s.heap.size ≤ q → (fun q : Nat => s.heap.size ≤ q) q := fun _ h => h
  have hbA : ¬ (fun q : Nat => s.heap.size ≤ q) b := Nat.not_le.mpr hbl
  refine lv_aload_n hx hb d_L_law_243 rfl (lv_at hl 3 rfl) ?_
  refine lv_aload_n hx hb d_L_law_244 rfl (lv_at hl 4 rfl) ?_
  refine lv_iload hx hb d_L_law_245 (lv_at hl 0 rfl) ?_
  refine lv_iconst (v := 1) hx hb d_L_law_247 (by decide) ?_
  refine lv_iadd hx hb d_L_law_248 ?_
  refine lv_topi (fun x_1 ex_1 => ?_)
  obtain rfl : x_1 = 1 := ex_1.trans (by decide +kernel)
  clear ex_1
  refine va_sld hx hb hX hbl hbA hS (by unfold vp_in; decide +kernel) d_L_law_249 ?_
  refine lv_aload_n hx hb d_L_law_250 rfl (lv_at hl 1 rfl) ?_
  have hPc := hP.sub (ws' := [(qK, .inr (0, [.ref qd, .ref qb, .ref qf, .ref qc, .ref qm, .ref qw, .ref qp, .int 0, .int (-1)])), (qp, .inr (4, [.int 0, .int 0, .int 0])), (qb, .inr (1, [.ref qy, .int 0])), (qo, .inl (cO, 1, .inr (.inl ((fun _ => 0)))))]) [0, 5, 2, 9] rfl
  have hKc := hK.sub (tys' := [(cO, .long)]) [4] rfl
  have hDc := hD.sub (ws' := [(qK, .inr (0, [.ref qd, .ref qb, .ref qf, .ref qc, .ref qm, .ref qw, .ref qp, .int 0, .int (-1)])), (qp, .inr (4, [.int 0, .int 0, .int 0])), (qb, .inr (1, [.ref qy, .int 0])), (qo, .inl (cO, 1, .inr (.inl ((fun _ => 0)))))]) [0, 5, 2, 9] (by decide) rfl
  have hFc := va_free (wc := [(qK, .inr (0, [.ref qd, .ref qb, .ref qf, .ref qc, .ref qm, .ref qw, .ref qp, .int 0, .int (-1)])), (qp, .inr (4, [.int 0, .int 0, .int 0])), (qb, .inr (1, [.ref qy, .int 0])), (qo, .inl (cO, 1, .inr (.inl ((fun _ => 0)))))]) hD hS hA [0, 5, 2, 9] rfl
  refine va_calli (va_runSW (As := [.ref qK, .int (xs (Int32.toNatClampNeg 1)), .ref qo]) (rest := []) ⟨hx, hb, hml, hown, hw0⟩ (w_end_F l dC dI H.size qK (.ref qd) (.ref qf) (.ref qc) (.ref qm) (.ref qw) 0 (-1) qp 0 0 qb (.ref qy) (xs (Int32.toNatClampNeg 1)) qo cO (fun _ => 0) (by first | assumption | decide | omega)) (csw_of 3 hw0 344 345 346 335 rfl rfl rfl rfl rfl rfl (by decide +kernel) ⟨by decide +kernel, by decide +kernel⟩) (prS_E hPc hKc hDc hN) rfl rfl hl.1 rfl (lv_room (Nat.le_of_ble_eq_true rfl)) d_L_law_251 ⟨by decide +kernel, by decide +kernel⟩) hS (fun q _ h => hFc q h) hFc (fun r_2 u t H1 locs ht hvm hw hB hz1 hk1 hS => ?_)
  obtain ⟨g_3, hu_4, hP1, hK1, hD1⟩ := hB
  rw [ht] at hP1
  have hK1 := va_K.moved hvm.symm hK1
  try dsimp only at hw
  obtain ⟨hP, hD⟩ := va_join (wr := [(qd, .inl (cD, 8, .inr (.inr (.inr (.inr (fun _ => none)))))), (qy, .inl (cB, 256, .inl (fun _ => 0))), (qf, .inr (1, [.ref qz, .int 0])), (qM, .inr (7, [.int 0, .int 0, .int (-1), .ref q_buffer, .int 0, .int 0, .ref q_gone, .ref q_first, .ref q_many, .ref q_lengths, .ref q_authors, .ref q_sums, .ref q_row, .ref q_made, .int 0, .ref q_base, .int 0, .ref q_text, .int (-1), .int (-1), .ref q_other, .int 0, .ref q_piece, .int 0, .int 0, .int 0, .int 0])), (q_buffer, .inl (cB2, 256, .inl (fun _ => 0))), (q_lengths, .inl (cS, 512, .inl (gL)))]) (w1 := [(qo, .inl (cO, 1, .inr (.inl (g_3))))]) hP hD [0, 5, 2, 9] [1, 3, 4, 6, 7, 8] rfl rfl (by decide) (by decide) hk1 hFc hP1 hD1
  generalize H1 = H at hP hS ⊢
  replace hP : va_P (dC, dI) vwCl [(qd, .inl (cD, 8, .inr (.inr (.inr (.inr (fun _ => none)))))), (qy, .inl (cB, 256, .inl (fun _ => 0))), (qf, .inr (1, [.ref qz, .int 0])), (qM, .inr (7, [.int 0, .int 0, .int (-1), .ref q_buffer, .int 0, .int 0, .ref q_gone, .ref q_first, .ref q_many, .ref q_lengths, .ref q_authors, .ref q_sums, .ref q_row, .ref q_made, .int 0, .ref q_base, .int 0, .ref q_text, .int (-1), .int (-1), .ref q_other, .int 0, .ref q_piece, .int 0, .int 0, .int 0, .int 0])), (q_buffer, .inl (cB2, 256, .inl (fun _ => 0))), (q_lengths, .inl (cS, 512, .inl (gL))), (qo, .inl (cO, 1, .inr (.inl (g_3))))] H := hP
  replace hD : va_D (fun q : Nat => s.heap.size ≤ q) [(qd, .inl (cD, 8, .inr (.inr (.inr (.inr (fun _ => none)))))), (qy, .inl (cB, 256, .inl (fun _ => 0))), (qf, .inr (1, [.ref qz, .int 0])), (qM, .inr (7, [.int 0, .int 0, .int (-1), .ref q_buffer, .int 0, .int 0, .ref q_gone, .ref q_first, .ref q_many, .ref q_lengths, .ref q_authors, .ref q_sums, .ref q_row, .ref q_made, .int 0, .ref q_base, .int 0, .ref q_text, .int (-1), .int (-1), .ref q_other, .int 0, .ref q_piece, .int 0, .int 0, .int 0, .int 0])), (q_buffer, .inl (cB2, 256, .inl (fun _ => 0))), (q_lengths, .inl (cS, 512, .inl (gL))), (qo, .inl (cO, 1, .inr (.inl (g_3))))] := hD
  replace hK : va_K (dC, dI) vwCl [(cD, .object R_D), (cB, .byte), (cB2, .byte), (cS, .short), (cO, .long)] s := hK
  obtain rfl : r_2 = 0 := hw
  refine lv_istore (lv' := [(5, .int 0), (4, .int 0), (3, .ref qo), (2, .ref qM), (1, .ref qK), (0, .ref b)]) hx hb d_L_law_254 hl (by decide) rfl (fun ls hl => ?_)
  refine lv_aload_n hx hb d_L_law_256 rfl (lv_at hl 3 rfl) ?_
  refine lv_aload_n hx hb d_L_law_257 rfl (lv_at hl 5 rfl) ?_
  refine lv_iload hx hb d_L_law_258 (lv_at hl 1 rfl) ?_
  refine lv_iconst (v := 1) hx hb d_L_law_260 (by decide) ?_
  refine lv_iadd hx hb d_L_law_261 ?_
  refine lv_topi (fun x_5 ex_5 => ?_)
  obtain rfl : x_5 = 1 := ex_5.trans (by decide +kernel)
  clear ex_5
  refine va_sld hx hb hX hbl hbA hS (by unfold vp_in; decide +kernel) d_L_law_262 ?_
  have hPc := hP.sub (ws' := [(qM, .inr (7, [.int 0, .int 0, .int (-1), .ref q_buffer, .int 0, .int 0, .ref q_gone, .ref q_first, .ref q_many, .ref q_lengths, .ref q_authors, .ref q_sums, .ref q_row, .ref q_made, .int 0, .ref q_base, .int 0, .ref q_text, .int (-1), .int (-1), .ref q_other, .int 0, .ref q_piece, .int 0, .int 0, .int 0, .int 0]))]) [3] rfl
  have hKc := hK.sub (tys' := []) [] rfl
  have hDc := hD.sub (ws' := [(qM, .inr (7, [.int 0, .int 0, .int (-1), .ref q_buffer, .int 0, .int 0, .ref q_gone, .ref q_first, .ref q_many, .ref q_lengths, .ref q_authors, .ref q_sums, .ref q_row, .ref q_made, .int 0, .ref q_base, .int 0, .ref q_text, .int (-1), .int (-1), .ref q_other, .int 0, .ref q_piece, .int 0, .int 0, .int 0, .int 0]))]) [3] (by decide) rfl
  have hFc := va_free (wc := [(qM, .inr (7, [.int 0, .int 0, .int (-1), .ref q_buffer, .int 0, .int 0, .ref q_gone, .ref q_first, .ref q_many, .ref q_lengths, .ref q_authors, .ref q_sums, .ref q_row, .ref q_made, .int 0, .ref q_base, .int 0, .ref q_text, .int (-1), .int (-1), .ref q_other, .int 0, .ref q_piece, .int 0, .int 0, .int 0, .int 0]))]) hD hS hA [3] rfl
  refine va_calli (va_runV (As := [.int (xs (Int32.toNatClampNeg 1))]) (rest := []) ⟨hx, hb, hml, hown, hw0⟩ (m_end_F l dC dI H.size qM 0 (-1) (.ref q_buffer) 0 (.ref q_gone) (.ref q_first) (.ref q_many) (.ref q_lengths) (.ref q_authors) (.ref q_sums) (.ref q_row) (.ref q_made) 0 (.ref q_base) 0 (.ref q_text) (-1) (-1) (.ref q_other) 0 (.ref q_piece) 0 0 0 0 (xs (Int32.toNatClampNeg 1)) (by first | assumption | decide | omega)) (cwV 1 hw0 (gd_V 347 348 349 173 350 rfl rfl rfl rfl rfl) rfl rfl rfl (by decide +kernel) ⟨by decide +kernel, by decide +kernel⟩) (prV_E hPc hKc hDc hN (va_recv hKc hPc (ci := 7) (q0 := 0) rfl rfl)) rfl rfl hl.1 rfl (lv_room (Nat.le_of_ble_eq_true rfl)) d_L_law_263 ⟨by decide +kernel, by decide +kernel⟩) hS (fun q _ h => hFc q h) hFc (fun r_6 u t H1 locs ht hvm hw hB hz1 hk1 hS => ?_)
  obtain ⟨hP1, hK1, hD1⟩ := hB
  rw [ht] at hP1
  have hK1 := va_K.moved hvm.symm hK1
  try dsimp only at hw
  obtain ⟨hP, hD⟩ := va_join (wr := [(qd, .inl (cD, 8, .inr (.inr (.inr (.inr (fun _ => none)))))), (qy, .inl (cB, 256, .inl (fun _ => 0))), (qf, .inr (1, [.ref qz, .int 0])), (q_buffer, .inl (cB2, 256, .inl (fun _ => 0))), (q_lengths, .inl (cS, 512, .inl (gL))), (qo, .inl (cO, 1, .inr (.inl (g_3))))]) (w1 := [(qM, .inr (7, [.int 0, .int 0, .int (-1), .ref q_buffer, .int 0, .int 0, .ref q_gone, .ref q_first, .ref q_many, .ref q_lengths, .ref q_authors, .ref q_sums, .ref q_row, .ref q_made, .int 0, .ref q_base, .int 0, .ref q_text, .int (-1), .int (-1), .ref q_other, .int 0, .ref q_piece, .int 0, .int 0, .int 0, .int 0]))]) hP hD [3] [0, 1, 2, 4, 5, 6] rfl rfl (by decide) (by decide) hk1 hFc hP1 hD1
  generalize H1 = H at hP hS ⊢
  replace hP : va_P (dC, dI) vwCl [(qd, .inl (cD, 8, .inr (.inr (.inr (.inr (fun _ => none)))))), (qy, .inl (cB, 256, .inl (fun _ => 0))), (qf, .inr (1, [.ref qz, .int 0])), (q_buffer, .inl (cB2, 256, .inl (fun _ => 0))), (q_lengths, .inl (cS, 512, .inl (gL))), (qo, .inl (cO, 1, .inr (.inl (g_3)))), (qM, .inr (7, [.int 0, .int 0, .int (-1), .ref q_buffer, .int 0, .int 0, .ref q_gone, .ref q_first, .ref q_many, .ref q_lengths, .ref q_authors, .ref q_sums, .ref q_row, .ref q_made, .int 0, .ref q_base, .int 0, .ref q_text, .int (-1), .int (-1), .ref q_other, .int 0, .ref q_piece, .int 0, .int 0, .int 0, .int 0]))] H := hP
  replace hD : va_D (fun q : Nat => s.heap.size ≤ q) [(qd, .inl (cD, 8, .inr (.inr (.inr (.inr (fun _ => none)))))), (qy, .inl (cB, 256, .inl (fun _ => 0))), (qf, .inr (1, [.ref qz, .int 0])), (q_buffer, .inl (cB2, 256, .inl (fun _ => 0))), (q_lengths, .inl (cS, 512, .inl (gL))), (qo, .inl (cO, 1, .inr (.inl (g_3)))), (qM, .inr (7, [.int 0, .int 0, .int (-1), .ref q_buffer, .int 0, .int 0, .ref q_gone, .ref q_first, .ref q_many, .ref q_lengths, .ref q_authors, .ref q_sums, .ref q_row, .ref q_made, .int 0, .ref q_base, .int 0, .ref q_text, .int (-1), .int (-1), .ref q_other, .int 0, .ref q_piece, .int 0, .int 0, .int 0, .int 0]))] := hD
  replace hK : va_K (dC, dI) vwCl [(cD, .object R_D), (cB, .byte), (cB2, .byte), (cS, .short), (cO, .long)] s := hK
  obtain rfl : r_6 = 0 := hw
  refine lv_istore (lv' := [(6, .int 0), (5, .int 0), (4, .int 0), (3, .ref qo), (2, .ref qM), (1, .ref qK), (0, .ref b)]) hx hb d_L_law_266 hl (by decide) rfl (fun ls hl => ?_)
  refine lv_aload_n hx hb d_L_law_268 rfl (lv_at hl 4 rfl) ?_
  have hPc := hP.sub (ws' := [(qM, .inr (7, [.int 0, .int 0, .int (-1), .ref q_buffer, .int 0, .int 0, .ref q_gone, .ref q_first, .ref q_many, .ref q_lengths, .ref q_authors, .ref q_sums, .ref q_row, .ref q_made, .int 0, .ref q_base, .int 0, .ref q_text, .int (-1), .int (-1), .ref q_other, .int 0, .ref q_piece, .int 0, .int 0, .int 0, .int 0]))]) [6] rfl
  have hKc := hK.sub (tys' := []) [] rfl
  refine ps_i (va_runV (As := []) (rest := []) ⟨hx, hb, hml, hown, hw0⟩ (m_thrown l dC dI qM 0 0 (-1) (.ref q_buffer) 0 0 (.ref q_gone) (.ref q_first) (.ref q_many) (.ref q_lengths) (.ref q_authors) (.ref q_sums) (.ref q_row) (.ref q_made) 0 (.ref q_base) 0 (.ref q_text) (-1) (-1) (.ref q_other) 0 (.ref q_piece) 0 0 0 0) (cwV 0 hw0 (gd_V 340 341 342 173 343 rfl rfl rfl rfl rfl) rfl rfl rfl (by decide +kernel) ⟨by decide +kernel, by decide +kernel⟩) (prV_R hPc hKc hN (va_recv hKc hPc (ci := 7) (q0 := 0) rfl rfl)) rfl rfl hl.1 rfl (lv_room (Nat.le_of_ble_eq_true rfl)) d_L_law_269 ⟨by decide +kernel, by decide +kernel⟩) (fun r_8 hr_8 => ?_)
  obtain rfl : r_8 = 0 := hr_8
  refine lv_iload hx hb d_L_law_272 (lv_at hl 1 rfl) ?_
  refine lv_icmp_eq (tgt := 279) hx hb d_L_law_274 (by decide) (fun _ => ?_) (fun h9 => absurd h9 (by decide +kernel))
  refine lv_iload hx hb d_L_law_279 (lv_at hl 1 rfl) ?_
  refine lv_if_ne (tgt := 303) hx hb d_L_law_281 (by decide) (fun h9 => absurd h9 (by decide +kernel)) (fun _ => ?_)
  refine lv_aload_n hx hb d_L_law_284 rfl (lv_at hl 3 rfl) ?_
  refine lv_iconst (v := 0) hx hb d_L_law_285 (by decide) ?_
  refine va_lald hx hb hK hP 5 4 rfl rfl (by unfold vp_in; decide +kernel) d_L_law_286 ?_
  refine lv_topl (fun x_9 ex_9 => ?_)
  obtain rfl : x_9 = 0 := ex_9.trans (by rw [sb_cl0]; exact hu_4)
  clear ex_9
  refine lv_iload hx hb d_L_law_287 (lv_at hl 0 rfl) ?_
  refine lv_if_eq (tgt := 296) hx hb d_L_law_289 (by decide) (fun _ => ?_) (fun h9 => absurd h9 (by decide +kernel))
  refine lv_lconst (v := 0) hx hb d_L_law_296 (by decide) ?_
  refine W.lcmp hx hb d_L_law_297 ?_
  refine lv_topi (fun x_10 ex_10 => ?_)
  obtain rfl : x_10 = 0 := ex_10.trans (by decide +kernel)
  clear ex_10
  refine lv_if_eq (tgt := 303) hx hb d_L_law_298 (by decide) (fun _ => ?_) (fun h9 => absurd h9 (by decide +kernel))
  refine lv_goto (tgt := 1332) hx hb d_L_law_303 (by decide) ?_
  refine W.widen (k := 600002) (n := 7302232) (by decide +kernel) (by decide +kernel) ?_
  exact law_end l hl9 C0 _ _ hS ls (lv_sub hl [2, 6] rfl)
