set_option maxHeartbeats 4000000 in
set_option maxRecDepth 100000 in
theorem law_case_2 {p : Program} {e : Env} {s : State} {m : MethodId} {below : List Frame} {meth : Method} {c : Code} (l : Launch) (hl9 : l.stackTraces = false) {b : Nat} {xs : Nat → Int32} (C0 : lw_At p s m meth c b 6 xs) {dC : Nat → ClassId} {dI : Nat → Nat → Nat} (qK qd qb qy qf qz qc qm qw qp qM q_buffer q_gone q_first q_many q_lengths q_authors q_sums q_row q_made q_base q_text q_other q_piece qo : Nat) (cD cB cB2 cS cO : ClassId) (gL : Nat → Int32) (hgL : ∀ i, i < 512 → gL i = (-1))  (hN : nw_ok s) (hTw : tw_ok s) (hK : va_K (dC, dI) vwCl [(cD, .object R_D), (cB, .byte), (cB2, .byte), (cS, .short), (cO, .long)] s) (H : Heap) (locs : List Loc) (hP : va_P (dC, dI) vwCl [(qK, .inr (0, [.ref qd, .ref qb, .ref qf, .ref qc, .ref qm, .ref qw, .ref qp, .int 0, .int (-1)])), (qd, .inl (cD, 8, .inr (.inr (.inr (.inr (fun _ => none)))))), (qb, .inr (1, [.ref qy, .int 0])), (qy, .inl (cB, 256, .inl (fun _ => 0))), (qf, .inr (1, [.ref qz, .int 0])), (qp, .inr (4, [.int 0, .int 0, .int 0])), (qM, .inr (7, [.int 0, .int 0, .int (-1), .ref q_buffer, .int 0, .int 0, .ref q_gone, .ref q_first, .ref q_many, .ref q_lengths, .ref q_authors, .ref q_sums, .ref q_row, .ref q_made, .int 0, .ref q_base, .int 0, .ref q_text, .int (-1), .int (-1), .ref q_other, .int 0, .ref q_piece, .int 0, .int 0, .int 0, .int 0])), (q_buffer, .inl (cB2, 256, .inl (fun _ => 0))), (q_lengths, .inl (cS, 512, .inl (gL))), (qo, .inl (cO, 1, .inr (.inl (fun _ => 0))))] H) (hD : va_D (fun q : Nat => s.heap.size ≤ q) [(qK, .inr (0, [.ref qd, .ref qb, .ref qf, .ref qc, .ref qm, .ref qw, .ref qp, .int 0, .int (-1)])), (qd, .inl (cD, 8, .inr (.inr (.inr (.inr (fun _ => none)))))), (qb, .inr (1, [.ref qy, .int 0])), (qy, .inl (cB, 256, .inl (fun _ => 0))), (qf, .inr (1, [.ref qz, .int 0])), (qp, .inr (4, [.int 0, .int 0, .int 0])), (qM, .inr (7, [.int 0, .int 0, .int (-1), .ref q_buffer, .int 0, .int 0, .ref q_gone, .ref q_first, .ref q_many, .ref q_lengths, .ref q_authors, .ref q_sums, .ref q_row, .ref q_made, .int 0, .ref q_base, .int 0, .ref q_text, .int (-1), .int (-1), .ref q_other, .int 0, .ref q_piece, .int 0, .int 0, .int 0, .int 0])), (q_buffer, .inl (cB2, 256, .inl (fun _ => 0))), (q_lengths, .inl (cS, 512, .inl (gL))), (qo, .inl (cO, 1, .inr (.inl (fun _ => 0))))]) (hS : va_S (fun q : Nat => s.heap.size ≤ q) s.heap H locs) (ls : Array Slot) (hl : lv_has ls 7 [(4, .int 0), (3, .ref qo), (2, .ref qM), (1, .ref qK), (0, .ref b)]) : W p l e room_1 s m #[Value.ref b] below meth c H locs 32 26000 (lw_Z below #[Value.ref b] s) (F0 m 306 ls []) := by
  obtain ⟨hx, hb, hr, hml, hown, hts, hX, hbl, hlocks, hgv⟩ := id C0
  have hw0 : ∀ w ∈ w0, w.before #[Value.ref b] s = true := fun w h => hts w (w0_ok w h).1
  have hA : ∀ q : Nat, s.heap.size ≤ q → (fun q : Nat => s.heap.size ≤ q) q := fun _ h => h
  have hbA : ¬ (fun q : Nat => s.heap.size ≤ q) b := Nat.not_le.mpr hbl
  refine lv_aload_n hx hb d_L_law_306 rfl (lv_at hl 3 rfl) ?_
  refine lv_aload_n hx hb d_L_law_307 rfl (lv_at hl 1 rfl) ?_
  have hPc := hP.sub (ws' := [(qK, .inr (0, [.ref qd, .ref qb, .ref qf, .ref qc, .ref qm, .ref qw, .ref qp, .int 0, .int (-1)])), (qp, .inr (4, [.int 0, .int 0, .int 0])), (qd, .inl (cD, 8, .inr (.inr (.inr (.inr (fun _ => none)))))), (qo, .inl (cO, 1, .inr (.inl ((fun _ => 0)))))]) [0, 5, 1, 9] rfl
  have hKc := hK.sub (tys' := [(cD, .object R_D), (cO, .long)]) [0, 4] rfl
  have hDc := hD.sub (ws' := [(qK, .inr (0, [.ref qd, .ref qb, .ref qf, .ref qc, .ref qm, .ref qw, .ref qp, .int 0, .int (-1)])), (qp, .inr (4, [.int 0, .int 0, .int 0])), (qd, .inl (cD, 8, .inr (.inr (.inr (.inr (fun _ => none)))))), (qo, .inl (cO, 1, .inr (.inl ((fun _ => 0)))))]) [0, 5, 1, 9] (by decide) rfl
  have hFc := va_free (wc := [(qK, .inr (0, [.ref qd, .ref qb, .ref qf, .ref qc, .ref qm, .ref qw, .ref qp, .int 0, .int (-1)])), (qp, .inr (4, [.int 0, .int 0, .int 0])), (qd, .inl (cD, 8, .inr (.inr (.inr (.inr (fun _ => none)))))), (qo, .inl (cO, 1, .inr (.inl ((fun _ => 0)))))]) hD hS hA [0, 5, 1, 9] rfl
  refine va_calli (va_runSW (As := [.ref qK, .ref qo]) (rest := []) ⟨hx, hb, hml, hown, hw0⟩ (w_make l dC dI H.size qK (.ref qb) (.ref qf) (.ref qc) (.ref qm) (.ref qw) (-1) qp 0 qd cD qo cO (fun _ => 0)) (csw_of 2 hw0 351 352 353 335 rfl rfl rfl rfl rfl rfl (by decide +kernel) ⟨by decide +kernel, by decide +kernel⟩) (prS_E hPc hKc hDc hN) rfl rfl hl.1 rfl (lv_room (Nat.le_of_ble_eq_true rfl)) d_L_law_308 ⟨by decide +kernel, by decide +kernel⟩) hS (fun q _ h => hFc q h) hFc (fun r_1 u t H1 locs ht hvm hw hB hz1 hk1 hS => ?_)
  obtain ⟨g_2, hu_3, hP1, hK1, hD1⟩ := hB
  rw [ht] at hP1
  have hK1 := va_K.moved hvm.symm hK1
  try dsimp only at hw
  obtain ⟨hP, hD⟩ := va_join (wr := [(qb, .inr (1, [.ref qy, .int 0])), (qy, .inl (cB, 256, .inl (fun _ => 0))), (qf, .inr (1, [.ref qz, .int 0])), (qM, .inr (7, [.int 0, .int 0, .int (-1), .ref q_buffer, .int 0, .int 0, .ref q_gone, .ref q_first, .ref q_many, .ref q_lengths, .ref q_authors, .ref q_sums, .ref q_row, .ref q_made, .int 0, .ref q_base, .int 0, .ref q_text, .int (-1), .int (-1), .ref q_other, .int 0, .ref q_piece, .int 0, .int 0, .int 0, .int 0])), (q_buffer, .inl (cB2, 256, .inl (fun _ => 0))), (q_lengths, .inl (cS, 512, .inl (gL)))]) (w1 := [(qo, .inl (cO, 1, .inr (.inl (g_2))))]) hP hD [0, 5, 1, 9] [2, 3, 4, 6, 7, 8] rfl rfl (by decide) (by decide) hk1 hFc hP1 hD1
  generalize H1 = H at hP hS ⊢
  replace hP : va_P (dC, dI) vwCl [(qb, .inr (1, [.ref qy, .int 0])), (qy, .inl (cB, 256, .inl (fun _ => 0))), (qf, .inr (1, [.ref qz, .int 0])), (qM, .inr (7, [.int 0, .int 0, .int (-1), .ref q_buffer, .int 0, .int 0, .ref q_gone, .ref q_first, .ref q_many, .ref q_lengths, .ref q_authors, .ref q_sums, .ref q_row, .ref q_made, .int 0, .ref q_base, .int 0, .ref q_text, .int (-1), .int (-1), .ref q_other, .int 0, .ref q_piece, .int 0, .int 0, .int 0, .int 0])), (q_buffer, .inl (cB2, 256, .inl (fun _ => 0))), (q_lengths, .inl (cS, 512, .inl (gL))), (qo, .inl (cO, 1, .inr (.inl (g_2))))] H := hP
  replace hD : va_D (fun q : Nat => s.heap.size ≤ q) [(qb, .inr (1, [.ref qy, .int 0])), (qy, .inl (cB, 256, .inl (fun _ => 0))), (qf, .inr (1, [.ref qz, .int 0])), (qM, .inr (7, [.int 0, .int 0, .int (-1), .ref q_buffer, .int 0, .int 0, .ref q_gone, .ref q_first, .ref q_many, .ref q_lengths, .ref q_authors, .ref q_sums, .ref q_row, .ref q_made, .int 0, .ref q_base, .int 0, .ref q_text, .int (-1), .int (-1), .ref q_other, .int 0, .ref q_piece, .int 0, .int 0, .int 0, .int 0])), (q_buffer, .inl (cB2, 256, .inl (fun _ => 0))), (q_lengths, .inl (cS, 512, .inl (gL))), (qo, .inl (cO, 1, .inr (.inl (g_2))))] := hD
  replace hK : va_K (dC, dI) vwCl [(cD, .object R_D), (cB, .byte), (cB2, .byte), (cS, .short), (cO, .long)] s := hK
  refine W.widen (k := 34) (n := 26067) (by decide +kernel) (by decide +kernel) ?_
  obtain rfl : r_1 = 0 := hw
  refine lv_istore (lv' := [(5, .int 0), (4, .int 0), (3, .ref qo), (2, .ref qM), (1, .ref qK), (0, .ref b)]) hx hb d_L_law_311 hl (by decide) rfl (fun ls hl => ?_)
  refine lv_aload_n hx hb d_L_law_313 rfl (lv_at hl 3 rfl) ?_
  have hPc := hP.sub (ws' := [(qM, .inr (7, [.int 0, .int 0, .int (-1), .ref q_buffer, .int 0, .int 0, .ref q_gone, .ref q_first, .ref q_many, .ref q_lengths, .ref q_authors, .ref q_sums, .ref q_row, .ref q_made, .int 0, .ref q_base, .int 0, .ref q_text, .int (-1), .int (-1), .ref q_other, .int 0, .ref q_piece, .int 0, .int 0, .int 0, .int 0]))]) [3] rfl
  have hKc := hK.sub (tys' := []) [] rfl
  have hDc := hD.sub (ws' := [(qM, .inr (7, [.int 0, .int 0, .int (-1), .ref q_buffer, .int 0, .int 0, .ref q_gone, .ref q_first, .ref q_many, .ref q_lengths, .ref q_authors, .ref q_sums, .ref q_row, .ref q_made, .int 0, .ref q_base, .int 0, .ref q_text, .int (-1), .int (-1), .ref q_other, .int 0, .ref q_piece, .int 0, .int 0, .int 0, .int 0]))]) [3] (by decide) rfl
  have hFc := va_free (wc := [(qM, .inr (7, [.int 0, .int 0, .int (-1), .ref q_buffer, .int 0, .int 0, .ref q_gone, .ref q_first, .ref q_many, .ref q_lengths, .ref q_authors, .ref q_sums, .ref q_row, .ref q_made, .int 0, .ref q_base, .int 0, .ref q_text, .int (-1), .int (-1), .ref q_other, .int 0, .ref q_piece, .int 0, .int 0, .int 0, .int 0]))]) hD hS hA [3] rfl
  refine va_calli (va_runV (As := []) (rest := []) ⟨hx, hb, hml, hown, hw0⟩ (m_make l dC dI H.size qM 0 (.ref q_buffer) 0 (.ref q_gone) (.ref q_first) (.ref q_many) (.ref q_lengths) (.ref q_authors) (.ref q_sums) (.ref q_row) (.ref q_made) 0 (.ref q_base) 0 (.ref q_text) (-1) (-1) (.ref q_other) 0 (.ref q_piece) 0 0 0 0) (cwV 0 hw0 (gd_V 354 355 356 173 357 rfl rfl rfl rfl rfl) rfl rfl rfl (by decide +kernel) ⟨by decide +kernel, by decide +kernel⟩) (prV_E hPc hKc hDc hN (va_recv hKc hPc (ci := 7) (q0 := 0) rfl rfl)) rfl rfl hl.1 rfl (lv_room (Nat.le_of_ble_eq_true rfl)) d_L_law_314 ⟨by decide +kernel, by decide +kernel⟩) hS (fun q _ h => hFc q h) hFc (fun r_4 u t H1 locs ht hvm hw hB hz1 hk1 hS => ?_)
  obtain ⟨hP1, hK1, hD1⟩ := hB
  rw [ht] at hP1
  have hK1 := va_K.moved hvm.symm hK1
  try dsimp only at hw
  obtain ⟨hP, hD⟩ := va_join (wr := [(qb, .inr (1, [.ref qy, .int 0])), (qy, .inl (cB, 256, .inl (fun _ => 0))), (qf, .inr (1, [.ref qz, .int 0])), (q_buffer, .inl (cB2, 256, .inl (fun _ => 0))), (q_lengths, .inl (cS, 512, .inl (gL))), (qo, .inl (cO, 1, .inr (.inl (g_2))))]) (w1 := [(qM, .inr (7, [.int 0, .int 0, .int (-1), .ref q_buffer, .int 0, .int 1, .ref q_gone, .ref q_first, .ref q_many, .ref q_lengths, .ref q_authors, .ref q_sums, .ref q_row, .ref q_made, .int 0, .ref q_base, .int 0, .ref q_text, .int (-1), .int (-1), .ref q_other, .int 0, .ref q_piece, .int 0, .int 0, .int 0, .int 0]))]) hP hD [3] [0, 1, 2, 4, 5, 6] rfl rfl (by decide) (by decide) hk1 hFc hP1 hD1
  generalize H1 = H at hP hS ⊢
  replace hP : va_P (dC, dI) vwCl [(qb, .inr (1, [.ref qy, .int 0])), (qy, .inl (cB, 256, .inl (fun _ => 0))), (qf, .inr (1, [.ref qz, .int 0])), (q_buffer, .inl (cB2, 256, .inl (fun _ => 0))), (q_lengths, .inl (cS, 512, .inl (gL))), (qo, .inl (cO, 1, .inr (.inl (g_2)))), (qM, .inr (7, [.int 0, .int 0, .int (-1), .ref q_buffer, .int 0, .int 1, .ref q_gone, .ref q_first, .ref q_many, .ref q_lengths, .ref q_authors, .ref q_sums, .ref q_row, .ref q_made, .int 0, .ref q_base, .int 0, .ref q_text, .int (-1), .int (-1), .ref q_other, .int 0, .ref q_piece, .int 0, .int 0, .int 0, .int 0]))] H := hP
  replace hD : va_D (fun q : Nat => s.heap.size ≤ q) [(qb, .inr (1, [.ref qy, .int 0])), (qy, .inl (cB, 256, .inl (fun _ => 0))), (qf, .inr (1, [.ref qz, .int 0])), (q_buffer, .inl (cB2, 256, .inl (fun _ => 0))), (q_lengths, .inl (cS, 512, .inl (gL))), (qo, .inl (cO, 1, .inr (.inl (g_2)))), (qM, .inr (7, [.int 0, .int 0, .int (-1), .ref q_buffer, .int 0, .int 1, .ref q_gone, .ref q_first, .ref q_many, .ref q_lengths, .ref q_authors, .ref q_sums, .ref q_row, .ref q_made, .int 0, .ref q_base, .int 0, .ref q_text, .int (-1), .int (-1), .ref q_other, .int 0, .ref q_piece, .int 0, .int 0, .int 0, .int 0]))] := hD
  replace hK : va_K (dC, dI) vwCl [(cD, .object R_D), (cB, .byte), (cB2, .byte), (cS, .short), (cO, .long)] s := hK
  obtain rfl : r_4 = 0 := hw
  refine lv_istore (lv' := [(6, .int 0), (5, .int 0), (4, .int 0), (3, .ref qo), (2, .ref qM), (1, .ref qK), (0, .ref b)]) hx hb d_L_law_317 hl (by decide) rfl (fun ls hl => ?_)
  refine lv_aload_n hx hb d_L_law_319 rfl (lv_at hl 4 rfl) ?_
  have hPc := hP.sub (ws' := [(qM, .inr (7, [.int 0, .int 0, .int (-1), .ref q_buffer, .int 0, .int 1, .ref q_gone, .ref q_first, .ref q_many, .ref q_lengths, .ref q_authors, .ref q_sums, .ref q_row, .ref q_made, .int 0, .ref q_base, .int 0, .ref q_text, .int (-1), .int (-1), .ref q_other, .int 0, .ref q_piece, .int 0, .int 0, .int 0, .int 0]))]) [6] rfl
  have hKc := hK.sub (tys' := []) [] rfl
  refine ps_i (va_runV (As := []) (rest := []) ⟨hx, hb, hml, hown, hw0⟩ (m_thrown l dC dI qM 0 0 (-1) (.ref q_buffer) 0 1 (.ref q_gone) (.ref q_first) (.ref q_many) (.ref q_lengths) (.ref q_authors) (.ref q_sums) (.ref q_row) (.ref q_made) 0 (.ref q_base) 0 (.ref q_text) (-1) (-1) (.ref q_other) 0 (.ref q_piece) 0 0 0 0) (cwV 0 hw0 (gd_V 340 341 342 173 343 rfl rfl rfl rfl rfl) rfl rfl rfl (by decide +kernel) ⟨by decide +kernel, by decide +kernel⟩) (prV_R hPc hKc hN (va_recv hKc hPc (ci := 7) (q0 := 0) rfl rfl)) rfl rfl hl.1 rfl (lv_room (Nat.le_of_ble_eq_true rfl)) d_L_law_320 ⟨by decide +kernel, by decide +kernel⟩) (fun r_6 hr_6 => ?_)
  obtain rfl : r_6 = 0 := hr_6
  refine lv_iload hx hb d_L_law_323 (lv_at hl 1 rfl) ?_
  refine lv_icmp_eq (tgt := 330) hx hb d_L_law_325 (by decide) (fun _ => ?_) (fun h9 => absurd h9 (by decide +kernel))
  refine lv_iload hx hb d_L_law_330 (lv_at hl 1 rfl) ?_
  refine lv_if_ne (tgt := 347) hx hb d_L_law_332 (by decide) (fun h9 => absurd h9 (by decide +kernel)) (fun _ => ?_)
  refine lv_aload_n hx hb d_L_law_335 rfl (lv_at hl 3 rfl) ?_
  refine lv_iconst (v := 0) hx hb d_L_law_336 (by decide) ?_
  refine va_lald hx hb hK hP 5 4 rfl rfl (by unfold vp_in; decide +kernel) d_L_law_337 ?_
  refine lv_topl (fun x_7 ex_7 => ?_)
  obtain rfl : x_7 = 0 := ex_7.trans (by rw [sb_cl0]; exact hu_3)
  clear ex_7
  refine lv_iload hx hb d_L_law_338 (lv_at hl 0 rfl) ?_
  refine lv_i2l (v := 0) hx hb d_L_law_340 (by decide +kernel) ?_
  refine W.lcmp hx hb d_L_law_341 ?_
  refine lv_topi (fun x_8 ex_8 => ?_)
  obtain rfl : x_8 = 0 := ex_8.trans (by decide +kernel)
  clear ex_8
  refine lv_if_eq (tgt := 347) hx hb d_L_law_342 (by decide) (fun _ => ?_) (fun h9 => absurd h9 (by decide +kernel))
  refine lv_goto (tgt := 1332) hx hb d_L_law_347 (by decide) ?_
  refine W.widen (k := 600002) (n := 7302232) (by decide +kernel) (by decide +kernel) ?_
  exact law_end l hl9 C0 _ _ hS ls (lv_sub hl [2, 6] rfl)
set_option maxHeartbeats 4000000 in
set_option maxRecDepth 100000 in
theorem law_case_3 {p : Program} {e : Env} {s : State} {m : MethodId} {below : List Frame} {meth : Method} {c : Code} (l : Launch) (hl9 : l.stackTraces = false) {b : Nat} {xs : Nat → Int32} (C0 : lw_At p s m meth c b 6 xs) {dC : Nat → ClassId} {dI : Nat → Nat → Nat} (qK qd qb qy qf qz qc qm qw qp qM q_buffer q_gone q_first q_many q_lengths q_authors q_sums q_row q_made q_base q_text q_other q_piece qo : Nat) (cD cB cB2 cS cO : ClassId) (gL : Nat → Int32) (hgL : ∀ i, i < 512 → gL i = (-1))  (hN : nw_ok s) (hTw : tw_ok s) (hK : va_K (dC, dI) vwCl [(cD, .object R_D), (cB, .byte), (cB2, .byte), (cS, .short), (cO, .long)] s) (H : Heap) (locs : List Loc) (hP : va_P (dC, dI) vwCl [(qK, .inr (0, [.ref qd, .ref qb, .ref qf, .ref qc, .ref qm, .ref qw, .ref qp, .int 0, .int (-1)])), (qd, .inl (cD, 8, .inr (.inr (.inr (.inr (fun _ => none)))))), (qb, .inr (1, [.ref qy, .int 0])), (qy, .inl (cB, 256, .inl (fun _ => 0))), (qf, .inr (1, [.ref qz, .int 0])), (qp, .inr (4, [.int 0, .int 0, .int 0])), (qM, .inr (7, [.int 0, .int 0, .int (-1), .ref q_buffer, .int 0, .int 0, .ref q_gone, .ref q_first, .ref q_many, .ref q_lengths, .ref q_authors, .ref q_sums, .ref q_row, .ref q_made, .int 0, .ref q_base, .int 0, .ref q_text, .int (-1), .int (-1), .ref q_other, .int 0, .ref q_piece, .int 0, .int 0, .int 0, .int 0])), (q_buffer, .inl (cB2, 256, .inl (fun _ => 0))), (q_lengths, .inl (cS, 512, .inl (gL))), (qo, .inl (cO, 1, .inr (.inl (fun _ => 0))))] H) (hD : va_D (fun q : Nat => s.heap.size ≤ q) [(qK, .inr (0, [.ref qd, .ref qb, .ref qf, .ref qc, .ref qm, .ref qw, .ref qp, .int 0, .int (-1)])), (qd, .inl (cD, 8, .inr (.inr (.inr (.inr (fun _ => none)))))), (qb, .inr (1, [.ref qy, .int 0])), (qy, .inl (cB, 256, .inl (fun _ => 0))), (qf, .inr (1, [.ref qz, .int 0])), (qp, .inr (4, [.int 0, .int 0, .int 0])), (qM, .inr (7, [.int 0, .int 0, .int (-1), .ref q_buffer, .int 0, .int 0, .ref q_gone, .ref q_first, .ref q_many, .ref q_lengths, .ref q_authors, .ref q_sums, .ref q_row, .ref q_made, .int 0, .ref q_base, .int 0, .ref q_text, .int (-1), .int (-1), .ref q_other, .int 0, .ref q_piece, .int 0, .int 0, .int 0, .int 0])), (q_buffer, .inl (cB2, 256, .inl (fun _ => 0))), (q_lengths, .inl (cS, 512, .inl (gL))), (qo, .inl (cO, 1, .inr (.inl (fun _ => 0))))]) (hS : va_S (fun q : Nat => s.heap.size ≤ q) s.heap H locs) (ls : Array Slot) (hl : lv_has ls 7 [(4, .int 0), (3, .ref qo), (2, .ref qM), (1, .ref qK), (0, .ref b)]) : W p l e room_1 s m #[Value.ref b] below meth c H locs 32 26000 (lw_Z below #[Value.ref b] s) (F0 m 350 ls []) := by
  obtain ⟨hx, hb, hr, hml, hown, hts, hX, hbl, hlocks, hgv⟩ := id C0
  have hw0 : ∀ w ∈ w0, w.before #[Value.ref b] s = true := fun w h => hts w (w0_ok w h).1
  have hA : ∀ q : Nat, s.heap.size ≤ q → (fun q : Nat => s.heap.size ≤ q) q := fun _ h => h
  have hbA : ¬ (fun q : Nat => s.heap.size ≤ q) b := Nat.not_le.mpr hbl
  refine lv_aload_n hx hb d_L_law_350 rfl (lv_at hl 3 rfl) ?_
  refine lv_aload_n hx hb d_L_law_351 rfl (lv_at hl 4 rfl) ?_
  refine lv_iload hx hb d_L_law_352 (lv_at hl 0 rfl) ?_
  refine lv_iconst (v := 1) hx hb d_L_law_354 (by decide) ?_
  refine lv_iadd hx hb d_L_law_355 ?_
  refine lv_topi (fun x_1 ex_1 => ?_)
  obtain rfl : x_1 = 1 := ex_1.trans (by decide +kernel)
  clear ex_1
  refine va_sld hx hb hX hbl hbA hS (by unfold vp_in; decide +kernel) d_L_law_356 ?_
  refine lv_aload_n hx hb d_L_law_357 rfl (lv_at hl 4 rfl) ?_
  refine lv_iload hx hb d_L_law_358 (lv_at hl 0 rfl) ?_
  refine lv_iconst (v := 2) hx hb d_L_law_360 (by decide) ?_
  refine lv_iadd hx hb d_L_law_361 ?_
  refine lv_topi (fun x_2 ex_2 => ?_)
  obtain rfl : x_2 = 2 := ex_2.trans (by decide +kernel)
  clear ex_2
  refine va_sld hx hb hX hbl hbA hS (by unfold vp_in; decide +kernel) d_L_law_362 ?_
  refine lv_aload_n hx hb d_L_law_363 rfl (lv_at hl 1 rfl) ?_
  have hPc := hP.sub (ws' := [(qK, .inr (0, [.ref qd, .ref qb, .ref qf, .ref qc, .ref qm, .ref qw, .ref qp, .int 0, .int (-1)])), (qp, .inr (4, [.int 0, .int 0, .int 0])), (qd, .inl (cD, 8, .inr (.inr (.inr (.inr (fun _ => none)))))), (qo, .inl (cO, 1, .inr (.inl ((fun _ => 0)))))]) [0, 5, 1, 9] rfl
  have hKc := hK.sub (tys' := [(cD, .object R_D), (cO, .long)]) [0, 4] rfl
  have hDc := hD.sub (ws' := [(qK, .inr (0, [.ref qd, .ref qb, .ref qf, .ref qc, .ref qm, .ref qw, .ref qp, .int 0, .int (-1)])), (qp, .inr (4, [.int 0, .int 0, .int 0])), (qd, .inl (cD, 8, .inr (.inr (.inr (.inr (fun _ => none)))))), (qo, .inl (cO, 1, .inr (.inl ((fun _ => 0)))))]) [0, 5, 1, 9] (by decide) rfl
  have hFc := va_free (wc := [(qK, .inr (0, [.ref qd, .ref qb, .ref qf, .ref qc, .ref qm, .ref qw, .ref qp, .int 0, .int (-1)])), (qp, .inr (4, [.int 0, .int 0, .int 0])), (qd, .inl (cD, 8, .inr (.inr (.inr (.inr (fun _ => none)))))), (qo, .inl (cO, 1, .inr (.inl ((fun _ => 0)))))]) hD hS hA [0, 5, 1, 9] rfl
  refine va_calli (va_runSW (As := [.ref qK, .int (xs (Int32.toNatClampNeg 1)), .int (xs (Int32.toNatClampNeg 2)), .ref qo]) (rest := []) ⟨hx, hb, hml, hown, hw0⟩ (w_commit l dC dI H.size qK (.ref qb) (.ref qf) (.ref qc) (.ref qm) (.ref qw) 0 (-1) qp 0 0 qd cD (xs (Int32.toNatClampNeg 1)) (xs (Int32.toNatClampNeg 2)) qo cO (fun _ => 0)) (csw_of 4 hw0 358 359 360 335 rfl rfl rfl rfl rfl rfl (by decide +kernel) ⟨by decide +kernel, by decide +kernel⟩) (prS_E hPc hKc hDc hN) rfl rfl hl.1 rfl (lv_room (Nat.le_of_ble_eq_true rfl)) d_L_law_364 ⟨by decide +kernel, by decide +kernel⟩) hS (fun q _ h => hFc q h) hFc (fun r_3 u t H1 locs ht hvm hw hB hz1 hk1 hS => ?_)
  obtain ⟨g_4, hu_5, hP1, hK1, hD1⟩ := hB
  rw [ht] at hP1
  have hK1 := va_K.moved hvm.symm hK1
  try dsimp only at hw
  obtain ⟨hP, hD⟩ := va_join (wr := [(qb, .inr (1, [.ref qy, .int 0])), (qy, .inl (cB, 256, .inl (fun _ => 0))), (qf, .inr (1, [.ref qz, .int 0])), (qM, .inr (7, [.int 0, .int 0, .int (-1), .ref q_buffer, .int 0, .int 0, .ref q_gone, .ref q_first, .ref q_many, .ref q_lengths, .ref q_authors, .ref q_sums, .ref q_row, .ref q_made, .int 0, .ref q_base, .int 0, .ref q_text, .int (-1), .int (-1), .ref q_other, .int 0, .ref q_piece, .int 0, .int 0, .int 0, .int 0])), (q_buffer, .inl (cB2, 256, .inl (fun _ => 0))), (q_lengths, .inl (cS, 512, .inl (gL)))]) (w1 := [(qo, .inl (cO, 1, .inr (.inl (g_4))))]) hP hD [0, 5, 1, 9] [2, 3, 4, 6, 7, 8] rfl rfl (by decide) (by decide) hk1 hFc hP1 hD1
  generalize H1 = H at hP hS ⊢
  replace hP : va_P (dC, dI) vwCl [(qb, .inr (1, [.ref qy, .int 0])), (qy, .inl (cB, 256, .inl (fun _ => 0))), (qf, .inr (1, [.ref qz, .int 0])), (qM, .inr (7, [.int 0, .int 0, .int (-1), .ref q_buffer, .int 0, .int 0, .ref q_gone, .ref q_first, .ref q_many, .ref q_lengths, .ref q_authors, .ref q_sums, .ref q_row, .ref q_made, .int 0, .ref q_base, .int 0, .ref q_text, .int (-1), .int (-1), .ref q_other, .int 0, .ref q_piece, .int 0, .int 0, .int 0, .int 0])), (q_buffer, .inl (cB2, 256, .inl (fun _ => 0))), (q_lengths, .inl (cS, 512, .inl (gL))), (qo, .inl (cO, 1, .inr (.inl (g_4))))] H := hP
  replace hD : va_D (fun q : Nat => s.heap.size ≤ q) [(qb, .inr (1, [.ref qy, .int 0])), (qy, .inl (cB, 256, .inl (fun _ => 0))), (qf, .inr (1, [.ref qz, .int 0])), (qM, .inr (7, [.int 0, .int 0, .int (-1), .ref q_buffer, .int 0, .int 0, .ref q_gone, .ref q_first, .ref q_many, .ref q_lengths, .ref q_authors, .ref q_sums, .ref q_row, .ref q_made, .int 0, .ref q_base, .int 0, .ref q_text, .int (-1), .int (-1), .ref q_other, .int 0, .ref q_piece, .int 0, .int 0, .int 0, .int 0])), (q_buffer, .inl (cB2, 256, .inl (fun _ => 0))), (q_lengths, .inl (cS, 512, .inl (gL))), (qo, .inl (cO, 1, .inr (.inl (g_4))))] := hD
  replace hK : va_K (dC, dI) vwCl [(cD, .object R_D), (cB, .byte), (cB2, .byte), (cS, .short), (cO, .long)] s := hK
  obtain rfl : r_3 = 0 := hw
  refine lv_istore (lv' := [(5, .int 0), (4, .int 0), (3, .ref qo), (2, .ref qM), (1, .ref qK), (0, .ref b)]) hx hb d_L_law_367 hl (by decide) rfl (fun ls hl => ?_)
  refine lv_aload_n hx hb d_L_law_369 rfl (lv_at hl 3 rfl) ?_
  refine lv_aload_n hx hb d_L_law_370 rfl (lv_at hl 5 rfl) ?_
  refine lv_iload hx hb d_L_law_371 (lv_at hl 1 rfl) ?_
  refine lv_iconst (v := 1) hx hb d_L_law_373 (by decide) ?_
  refine lv_iadd hx hb d_L_law_374 ?_
  refine lv_topi (fun x_6 ex_6 => ?_)
  obtain rfl : x_6 = 1 := ex_6.trans (by decide +kernel)
  clear ex_6
  refine va_sld hx hb hX hbl hbA hS (by unfold vp_in; decide +kernel) d_L_law_375 ?_
  refine lv_aload_n hx hb d_L_law_376 rfl (lv_at hl 5 rfl) ?_
  refine lv_iload hx hb d_L_law_377 (lv_at hl 1 rfl) ?_
  refine lv_iconst (v := 2) hx hb d_L_law_379 (by decide) ?_
  refine lv_iadd hx hb d_L_law_380 ?_
  refine lv_topi (fun x_7 ex_7 => ?_)
  obtain rfl : x_7 = 2 := ex_7.trans (by decide +kernel)
  clear ex_7
  refine va_sld hx hb hX hbl hbA hS (by unfold vp_in; decide +kernel) d_L_law_381 ?_
  have hPc := hP.sub (ws' := [(qM, .inr (7, [.int 0, .int 0, .int (-1), .ref q_buffer, .int 0, .int 0, .ref q_gone, .ref q_first, .ref q_many, .ref q_lengths, .ref q_authors, .ref q_sums, .ref q_row, .ref q_made, .int 0, .ref q_base, .int 0, .ref q_text, .int (-1), .int (-1), .ref q_other, .int 0, .ref q_piece, .int 0, .int 0, .int 0, .int 0]))]) [3] rfl
  have hKc := hK.sub (tys' := []) [] rfl
  have hDc := hD.sub (ws' := [(qM, .inr (7, [.int 0, .int 0, .int (-1), .ref q_buffer, .int 0, .int 0, .ref q_gone, .ref q_first, .ref q_many, .ref q_lengths, .ref q_authors, .ref q_sums, .ref q_row, .ref q_made, .int 0, .ref q_base, .int 0, .ref q_text, .int (-1), .int (-1), .ref q_other, .int 0, .ref q_piece, .int 0, .int 0, .int 0, .int 0]))]) [3] (by decide) rfl
  have hFc := va_free (wc := [(qM, .inr (7, [.int 0, .int 0, .int (-1), .ref q_buffer, .int 0, .int 0, .ref q_gone, .ref q_first, .ref q_many, .ref q_lengths, .ref q_authors, .ref q_sums, .ref q_row, .ref q_made, .int 0, .ref q_base, .int 0, .ref q_text, .int (-1), .int (-1), .ref q_other, .int 0, .ref q_piece, .int 0, .int 0, .int 0, .int 0]))]) hD hS hA [3] rfl
  refine va_calli (va_runV (As := [.int (xs (Int32.toNatClampNeg 1)), .int (xs (Int32.toNatClampNeg 2))]) (rest := []) ⟨hx, hb, hml, hown, hw0⟩ (m_commit l dC dI H.size qM 0 (-1) (.ref q_buffer) 0 (.ref q_gone) (.ref q_first) (.ref q_many) (.ref q_lengths) (.ref q_authors) (.ref q_sums) (.ref q_row) (.ref q_made) 0 (.ref q_base) 0 (.ref q_text) (-1) (-1) (.ref q_other) 0 (.ref q_piece) 0 0 0 0 (xs (Int32.toNatClampNeg 1)) (xs (Int32.toNatClampNeg 2))) (cwV 2 hw0 (gd_V 361 362 363 173 364 rfl rfl rfl rfl rfl) rfl rfl rfl (by decide +kernel) ⟨by decide +kernel, by decide +kernel⟩) (prV_E hPc hKc hDc hN (va_recv hKc hPc (ci := 7) (q0 := 0) rfl rfl)) rfl rfl hl.1 rfl (lv_room (Nat.le_of_ble_eq_true rfl)) d_L_law_382 ⟨by decide +kernel, by decide +kernel⟩) hS (fun q _ h => hFc q h) hFc (fun r_8 u t H1 locs ht hvm hw hB hz1 hk1 hS => ?_)
  obtain ⟨hP1, hK1, hD1⟩ := hB
  rw [ht] at hP1
  have hK1 := va_K.moved hvm.symm hK1
  try dsimp only at hw
  obtain ⟨hP, hD⟩ := va_join (wr := [(qb, .inr (1, [.ref qy, .int 0])), (qy, .inl (cB, 256, .inl (fun _ => 0))), (qf, .inr (1, [.ref qz, .int 0])), (q_buffer, .inl (cB2, 256, .inl (fun _ => 0))), (q_lengths, .inl (cS, 512, .inl (gL))), (qo, .inl (cO, 1, .inr (.inl (g_4))))]) (w1 := [(qM, .inr (7, [.int 0, .int 0, .int (-1), .ref q_buffer, .int 0, .int 0, .ref q_gone, .ref q_first, .ref q_many, .ref q_lengths, .ref q_authors, .ref q_sums, .ref q_row, .ref q_made, .int 0, .ref q_base, .int 0, .ref q_text, .int (-1), .int (-1), .ref q_other, .int 0, .ref q_piece, .int 0, .int 0, .int 0, .int 0]))]) hP hD [3] [0, 1, 2, 4, 5, 6] rfl rfl (by decide) (by decide) hk1 hFc hP1 hD1
  generalize H1 = H at hP hS ⊢
  replace hP : va_P (dC, dI) vwCl [(qb, .inr (1, [.ref qy, .int 0])), (qy, .inl (cB, 256, .inl (fun _ => 0))), (qf, .inr (1, [.ref qz, .int 0])), (q_buffer, .inl (cB2, 256, .inl (fun _ => 0))), (q_lengths, .inl (cS, 512, .inl (gL))), (qo, .inl (cO, 1, .inr (.inl (g_4)))), (qM, .inr (7, [.int 0, .int 0, .int (-1), .ref q_buffer, .int 0, .int 0, .ref q_gone, .ref q_first, .ref q_many, .ref q_lengths, .ref q_authors, .ref q_sums, .ref q_row, .ref q_made, .int 0, .ref q_base, .int 0, .ref q_text, .int (-1), .int (-1), .ref q_other, .int 0, .ref q_piece, .int 0, .int 0, .int 0, .int 0]))] H := hP
  replace hD : va_D (fun q : Nat => s.heap.size ≤ q) [(qb, .inr (1, [.ref qy, .int 0])), (qy, .inl (cB, 256, .inl (fun _ => 0))), (qf, .inr (1, [.ref qz, .int 0])), (q_buffer, .inl (cB2, 256, .inl (fun _ => 0))), (q_lengths, .inl (cS, 512, .inl (gL))), (qo, .inl (cO, 1, .inr (.inl (g_4)))), (qM, .inr (7, [.int 0, .int 0, .int (-1), .ref q_buffer, .int 0, .int 0, .ref q_gone, .ref q_first, .ref q_many, .ref q_lengths, .ref q_authors, .ref q_sums, .ref q_row, .ref q_made, .int 0, .ref q_base, .int 0, .ref q_text, .int (-1), .int (-1), .ref q_other, .int 0, .ref q_piece, .int 0, .int 0, .int 0, .int 0]))] := hD
  replace hK : va_K (dC, dI) vwCl [(cD, .object R_D), (cB, .byte), (cB2, .byte), (cS, .short), (cO, .long)] s := hK
  obtain rfl : r_8 = (-1) := hw
  refine lv_istore (lv' := [(6, .int (-1)), (5, .int 0), (4, .int 0), (3, .ref qo), (2, .ref qM), (1, .ref qK), (0, .ref b)]) hx hb d_L_law_385 hl (by decide) rfl (fun ls hl => ?_)
  refine lv_aload_n hx hb d_L_law_387 rfl (lv_at hl 4 rfl) ?_
  have hPc := hP.sub (ws' := [(qM, .inr (7, [.int 0, .int 0, .int (-1), .ref q_buffer, .int 0, .int 0, .ref q_gone, .ref q_first, .ref q_many, .ref q_lengths, .ref q_authors, .ref q_sums, .ref q_row, .ref q_made, .int 0, .ref q_base, .int 0, .ref q_text, .int (-1), .int (-1), .ref q_other, .int 0, .ref q_piece, .int 0, .int 0, .int 0, .int 0]))]) [6] rfl
  have hKc := hK.sub (tys' := []) [] rfl
  refine ps_i (va_runV (As := []) (rest := []) ⟨hx, hb, hml, hown, hw0⟩ (m_thrown l dC dI qM 0 0 (-1) (.ref q_buffer) 0 0 (.ref q_gone) (.ref q_first) (.ref q_many) (.ref q_lengths) (.ref q_authors) (.ref q_sums) (.ref q_row) (.ref q_made) 0 (.ref q_base) 0 (.ref q_text) (-1) (-1) (.ref q_other) 0 (.ref q_piece) 0 0 0 0) (cwV 0 hw0 (gd_V 340 341 342 173 343 rfl rfl rfl rfl rfl) rfl rfl rfl (by decide +kernel) ⟨by decide +kernel, by decide +kernel⟩) (prV_R hPc hKc hN (va_recv hKc hPc (ci := 7) (q0 := 0) rfl rfl)) rfl rfl hl.1 rfl (lv_room (Nat.le_of_ble_eq_true rfl)) d_L_law_388 ⟨by decide +kernel, by decide +kernel⟩) (fun r_10 hr_10 => ?_)
  obtain rfl : r_10 = 0 := hr_10
  refine lv_iload hx hb d_L_law_391 (lv_at hl 1 rfl) ?_
  refine lv_icmp_eq (tgt := 398) hx hb d_L_law_393 (by decide) (fun _ => ?_) (fun h9 => absurd h9 (by decide +kernel))
  refine lv_iload hx hb d_L_law_398 (lv_at hl 1 rfl) ?_
  refine lv_if_ne (tgt := 415) hx hb d_L_law_400 (by decide) (fun h9 => absurd h9 (by decide +kernel)) (fun _ => ?_)
  refine lv_aload_n hx hb d_L_law_403 rfl (lv_at hl 3 rfl) ?_
  refine lv_iconst (v := 0) hx hb d_L_law_404 (by decide) ?_
  refine va_lald hx hb hK hP 5 4 rfl rfl (by unfold vp_in; decide +kernel) d_L_law_405 ?_
  refine lv_topl (fun x_11 ex_11 => ?_)
  obtain rfl : x_11 = (-1) := ex_11.trans (by rw [sb_cl0]; exact hu_5)
  clear ex_11
  refine lv_iload hx hb d_L_law_406 (lv_at hl 0 rfl) ?_
  refine lv_i2l (v := (-1)) hx hb d_L_law_408 (by decide +kernel) ?_
  refine W.lcmp hx hb d_L_law_409 ?_
  refine lv_topi (fun x_12 ex_12 => ?_)
  obtain rfl : x_12 = 0 := ex_12.trans (by decide +kernel)
  clear ex_12
  refine lv_if_eq (tgt := 415) hx hb d_L_law_410 (by decide) (fun _ => ?_) (fun h9 => absurd h9 (by decide +kernel))
  refine lv_goto (tgt := 1332) hx hb d_L_law_415 (by decide) ?_
  refine W.widen (k := 600002) (n := 7302232) (by decide +kernel) (by decide +kernel) ?_
  exact law_end l hl9 C0 _ _ hS ls (lv_sub hl [2, 6] rfl)
set_option maxHeartbeats 4000000 in
set_option maxRecDepth 100000 in
theorem law_case_4 {p : Program} {e : Env} {s : State} {m : MethodId} {below : List Frame} {meth : Method} {c : Code} (l : Launch) (hl9 : l.stackTraces = false) {b : Nat} {xs : Nat → Int32} (C0 : lw_At p s m meth c b 6 xs) {dC : Nat → ClassId} {dI : Nat → Nat → Nat} (qK qd qb qy qf qz qc qm qw qp qM q_buffer q_gone q_first q_many q_lengths q_authors q_sums q_row q_made q_base q_text q_other q_piece qo : Nat) (cD cB cB2 cS cO : ClassId) (gL : Nat → Int32) (hgL : ∀ i, i < 512 → gL i = (-1))  (hN : nw_ok s) (hTw : tw_ok s) (hK : va_K (dC, dI) vwCl [(cD, .object R_D), (cB, .byte), (cB2, .byte), (cS, .short), (cO, .long)] s) (H : Heap) (locs : List Loc) (hP : va_P (dC, dI) vwCl [(qK, .inr (0, [.ref qd, .ref qb, .ref qf, .ref qc, .ref qm, .ref qw, .ref qp, .int 0, .int (-1)])), (qd, .inl (cD, 8, .inr (.inr (.inr (.inr (fun _ => none)))))), (qb, .inr (1, [.ref qy, .int 0])), (qy, .inl (cB, 256, .inl (fun _ => 0))), (qf, .inr (1, [.ref qz, .int 0])), (qp, .inr (4, [.int 0, .int 0, .int 0])), (qM, .inr (7, [.int 0, .int 0, .int (-1), .ref q_buffer, .int 0, .int 0, .ref q_gone, .ref q_first, .ref q_many, .ref q_lengths, .ref q_authors, .ref q_sums, .ref q_row, .ref q_made, .int 0, .ref q_base, .int 0, .ref q_text, .int (-1), .int (-1), .ref q_other, .int 0, .ref q_piece, .int 0, .int 0, .int 0, .int 0])), (q_buffer, .inl (cB2, 256, .inl (fun _ => 0))), (q_lengths, .inl (cS, 512, .inl (gL))), (qo, .inl (cO, 1, .inr (.inl (fun _ => 0))))] H) (hD : va_D (fun q : Nat => s.heap.size ≤ q) [(qK, .inr (0, [.ref qd, .ref qb, .ref qf, .ref qc, .ref qm, .ref qw, .ref qp, .int 0, .int (-1)])), (qd, .inl (cD, 8, .inr (.inr (.inr (.inr (fun _ => none)))))), (qb, .inr (1, [.ref qy, .int 0])), (qy, .inl (cB, 256, .inl (fun _ => 0))), (qf, .inr (1, [.ref qz, .int 0])), (qp, .inr (4, [.int 0, .int 0, .int 0])), (qM, .inr (7, [.int 0, .int 0, .int (-1), .ref q_buffer, .int 0, .int 0, .ref q_gone, .ref q_first, .ref q_many, .ref q_lengths, .ref q_authors, .ref q_sums, .ref q_row, .ref q_made, .int 0, .ref q_base, .int 0, .ref q_text, .int (-1), .int (-1), .ref q_other, .int 0, .ref q_piece, .int 0, .int 0, .int 0, .int 0])), (q_buffer, .inl (cB2, 256, .inl (fun _ => 0))), (q_lengths, .inl (cS, 512, .inl (gL))), (qo, .inl (cO, 1, .inr (.inl (fun _ => 0))))]) (hS : va_S (fun q : Nat => s.heap.size ≤ q) s.heap H locs) (ls : Array Slot) (hl : lv_has ls 7 [(4, .int 0), (3, .ref qo), (2, .ref qM), (1, .ref qK), (0, .ref b)]) : W p l e room_1 s m #[Value.ref b] below meth c H locs 32 26000 (lw_Z below #[Value.ref b] s) (F0 m 418 ls []) := by
  obtain ⟨hx, hb, hr, hml, hown, hts, hX, hbl, hlocks, hgv⟩ := id C0
  have hw0 : ∀ w ∈ w0, w.before #[Value.ref b] s = true := fun w h => hts w (w0_ok w h).1
  have hA : ∀ q : Nat, s.heap.size ≤ q → (fun q : Nat => s.heap.size ≤ q) q := fun _ h => h
  have hbA : ¬ (fun q : Nat => s.heap.size ≤ q) b := Nat.not_le.mpr hbl
  refine lv_aload_n hx hb d_L_law_418 rfl (lv_at hl 3 rfl) ?_
  refine lv_aload_n hx hb d_L_law_419 rfl (lv_at hl 4 rfl) ?_
  refine lv_iload hx hb d_L_law_420 (lv_at hl 0 rfl) ?_
  refine lv_iconst (v := 1) hx hb d_L_law_422 (by decide) ?_
  refine lv_iadd hx hb d_L_law_423 ?_
  refine lv_topi (fun x_1 ex_1 => ?_)
  obtain rfl : x_1 = 1 := ex_1.trans (by decide +kernel)
  clear ex_1
  refine va_sld hx hb hX hbl hbA hS (by unfold vp_in; decide +kernel) d_L_law_424 ?_
  refine lv_aload_n hx hb d_L_law_425 rfl (lv_at hl 4 rfl) ?_
  refine lv_iload hx hb d_L_law_426 (lv_at hl 0 rfl) ?_
  refine lv_iconst (v := 2) hx hb d_L_law_428 (by decide) ?_
  refine lv_iadd hx hb d_L_law_429 ?_
  refine lv_topi (fun x_2 ex_2 => ?_)
  obtain rfl : x_2 = 2 := ex_2.trans (by decide +kernel)
  clear ex_2
  refine va_sld hx hb hX hbl hbA hS (by unfold vp_in; decide +kernel) d_L_law_430 ?_
  refine lv_aload_n hx hb d_L_law_431 rfl (lv_at hl 1 rfl) ?_
  have hPc := hP.sub (ws' := [(qK, .inr (0, [.ref qd, .ref qb, .ref qf, .ref qc, .ref qm, .ref qw, .ref qp, .int 0, .int (-1)])), (qp, .inr (4, [.int 0, .int 0, .int 0])), (qd, .inl (cD, 8, .inr (.inr (.inr (.inr (fun _ => none)))))), (qo, .inl (cO, 1, .inr (.inl ((fun _ => 0)))))]) [0, 5, 1, 9] rfl
  have hKc := hK.sub (tys' := [(cD, .object R_D), (cO, .long)]) [0, 4] rfl
  have hDc := hD.sub (ws' := [(qK, .inr (0, [.ref qd, .ref qb, .ref qf, .ref qc, .ref qm, .ref qw, .ref qp, .int 0, .int (-1)])), (qp, .inr (4, [.int 0, .int 0, .int 0])), (qd, .inl (cD, 8, .inr (.inr (.inr (.inr (fun _ => none)))))), (qo, .inl (cO, 1, .inr (.inl ((fun _ => 0)))))]) [0, 5, 1, 9] (by decide) rfl
  have hFc := va_free (wc := [(qK, .inr (0, [.ref qd, .ref qb, .ref qf, .ref qc, .ref qm, .ref qw, .ref qp, .int 0, .int (-1)])), (qp, .inr (4, [.int 0, .int 0, .int 0])), (qd, .inl (cD, 8, .inr (.inr (.inr (.inr (fun _ => none)))))), (qo, .inl (cO, 1, .inr (.inl ((fun _ => 0)))))]) hD hS hA [0, 5, 1, 9] rfl
  refine va_calli (va_runSW (As := [.ref qK, .int (xs (Int32.toNatClampNeg 1)), .int (xs (Int32.toNatClampNeg 2)), .ref qo]) (rest := []) ⟨hx, hb, hml, hown, hw0⟩ (w_fetch l dC dI H.size qK (.ref qb) (.ref qf) (.ref qc) (.ref qm) (.ref qw) 0 (-1) qp 0 0 qd cD (xs (Int32.toNatClampNeg 1)) (xs (Int32.toNatClampNeg 2)) qo cO (fun _ => 0)) (csw_of 4 hw0 365 366 367 335 rfl rfl rfl rfl rfl rfl (by decide +kernel) ⟨by decide +kernel, by decide +kernel⟩) (prS_E hPc hKc hDc hN) rfl rfl hl.1 rfl (lv_room (Nat.le_of_ble_eq_true rfl)) d_L_law_432 ⟨by decide +kernel, by decide +kernel⟩) hS (fun q _ h => hFc q h) hFc (fun r_3 u t H1 locs ht hvm hw hB hz1 hk1 hS => ?_)
  obtain ⟨g_4, hu_5, hP1, hK1, hD1⟩ := hB
  rw [ht] at hP1
  have hK1 := va_K.moved hvm.symm hK1
  try dsimp only at hw
  obtain ⟨hP, hD⟩ := va_join (wr := [(qb, .inr (1, [.ref qy, .int 0])), (qy, .inl (cB, 256, .inl (fun _ => 0))), (qf, .inr (1, [.ref qz, .int 0])), (qM, .inr (7, [.int 0, .int 0, .int (-1), .ref q_buffer, .int 0, .int 0, .ref q_gone, .ref q_first, .ref q_many, .ref q_lengths, .ref q_authors, .ref q_sums, .ref q_row, .ref q_made, .int 0, .ref q_base, .int 0, .ref q_text, .int (-1), .int (-1), .ref q_other, .int 0, .ref q_piece, .int 0, .int 0, .int 0, .int 0])), (q_buffer, .inl (cB2, 256, .inl (fun _ => 0))), (q_lengths, .inl (cS, 512, .inl (gL)))]) (w1 := [(qo, .inl (cO, 1, .inr (.inl (g_4))))]) hP hD [0, 5, 1, 9] [2, 3, 4, 6, 7, 8] rfl rfl (by decide) (by decide) hk1 hFc hP1 hD1
  generalize H1 = H at hP hS ⊢
  replace hP : va_P (dC, dI) vwCl [(qb, .inr (1, [.ref qy, .int 0])), (qy, .inl (cB, 256, .inl (fun _ => 0))), (qf, .inr (1, [.ref qz, .int 0])), (qM, .inr (7, [.int 0, .int 0, .int (-1), .ref q_buffer, .int 0, .int 0, .ref q_gone, .ref q_first, .ref q_many, .ref q_lengths, .ref q_authors, .ref q_sums, .ref q_row, .ref q_made, .int 0, .ref q_base, .int 0, .ref q_text, .int (-1), .int (-1), .ref q_other, .int 0, .ref q_piece, .int 0, .int 0, .int 0, .int 0])), (q_buffer, .inl (cB2, 256, .inl (fun _ => 0))), (q_lengths, .inl (cS, 512, .inl (gL))), (qo, .inl (cO, 1, .inr (.inl (g_4))))] H := hP
  replace hD : va_D (fun q : Nat => s.heap.size ≤ q) [(qb, .inr (1, [.ref qy, .int 0])), (qy, .inl (cB, 256, .inl (fun _ => 0))), (qf, .inr (1, [.ref qz, .int 0])), (qM, .inr (7, [.int 0, .int 0, .int (-1), .ref q_buffer, .int 0, .int 0, .ref q_gone, .ref q_first, .ref q_many, .ref q_lengths, .ref q_authors, .ref q_sums, .ref q_row, .ref q_made, .int 0, .ref q_base, .int 0, .ref q_text, .int (-1), .int (-1), .ref q_other, .int 0, .ref q_piece, .int 0, .int 0, .int 0, .int 0])), (q_buffer, .inl (cB2, 256, .inl (fun _ => 0))), (q_lengths, .inl (cS, 512, .inl (gL))), (qo, .inl (cO, 1, .inr (.inl (g_4))))] := hD
  replace hK : va_K (dC, dI) vwCl [(cD, .object R_D), (cB, .byte), (cB2, .byte), (cS, .short), (cO, .long)] s := hK
  obtain rfl : r_3 = 0 := hw
  refine lv_istore (lv' := [(5, .int 0), (4, .int 0), (3, .ref qo), (2, .ref qM), (1, .ref qK), (0, .ref b)]) hx hb d_L_law_435 hl (by decide) rfl (fun ls hl => ?_)
  refine lv_aload_n hx hb d_L_law_437 rfl (lv_at hl 3 rfl) ?_
  refine lv_aload_n hx hb d_L_law_438 rfl (lv_at hl 5 rfl) ?_
  refine lv_iload hx hb d_L_law_439 (lv_at hl 1 rfl) ?_
  refine lv_iconst (v := 1) hx hb d_L_law_441 (by decide) ?_
  refine lv_iadd hx hb d_L_law_442 ?_
  refine lv_topi (fun x_6 ex_6 => ?_)
  obtain rfl : x_6 = 1 := ex_6.trans (by decide +kernel)
  clear ex_6
  refine va_sld hx hb hX hbl hbA hS (by unfold vp_in; decide +kernel) d_L_law_443 ?_
  refine lv_aload_n hx hb d_L_law_444 rfl (lv_at hl 5 rfl) ?_
  refine lv_iload hx hb d_L_law_445 (lv_at hl 1 rfl) ?_
  refine lv_iconst (v := 2) hx hb d_L_law_447 (by decide) ?_
  refine lv_iadd hx hb d_L_law_448 ?_
  refine lv_topi (fun x_7 ex_7 => ?_)
  obtain rfl : x_7 = 2 := ex_7.trans (by decide +kernel)
  clear ex_7
  refine va_sld hx hb hX hbl hbA hS (by unfold vp_in; decide +kernel) d_L_law_449 ?_
  have hPc := hP.sub (ws' := [(qM, .inr (7, [.int 0, .int 0, .int (-1), .ref q_buffer, .int 0, .int 0, .ref q_gone, .ref q_first, .ref q_many, .ref q_lengths, .ref q_authors, .ref q_sums, .ref q_row, .ref q_made, .int 0, .ref q_base, .int 0, .ref q_text, .int (-1), .int (-1), .ref q_other, .int 0, .ref q_piece, .int 0, .int 0, .int 0, .int 0]))]) [3] rfl
  have hKc := hK.sub (tys' := []) [] rfl
  have hDc := hD.sub (ws' := [(qM, .inr (7, [.int 0, .int 0, .int (-1), .ref q_buffer, .int 0, .int 0, .ref q_gone, .ref q_first, .ref q_many, .ref q_lengths, .ref q_authors, .ref q_sums, .ref q_row, .ref q_made, .int 0, .ref q_base, .int 0, .ref q_text, .int (-1), .int (-1), .ref q_other, .int 0, .ref q_piece, .int 0, .int 0, .int 0, .int 0]))]) [3] (by decide) rfl
  have hFc := va_free (wc := [(qM, .inr (7, [.int 0, .int 0, .int (-1), .ref q_buffer, .int 0, .int 0, .ref q_gone, .ref q_first, .ref q_many, .ref q_lengths, .ref q_authors, .ref q_sums, .ref q_row, .ref q_made, .int 0, .ref q_base, .int 0, .ref q_text, .int (-1), .int (-1), .ref q_other, .int 0, .ref q_piece, .int 0, .int 0, .int 0, .int 0]))]) hD hS hA [3] rfl
  refine va_calli (va_runV (As := [.int (xs (Int32.toNatClampNeg 1)), .int (xs (Int32.toNatClampNeg 2))]) (rest := []) ⟨hx, hb, hml, hown, hw0⟩ (m_fetch l dC dI H.size qM 0 (-1) (.ref q_buffer) 0 (.ref q_gone) (.ref q_first) (.ref q_many) (.ref q_lengths) (.ref q_authors) (.ref q_sums) (.ref q_row) (.ref q_made) 0 (.ref q_base) 0 (.ref q_text) (-1) (-1) (.ref q_other) 0 (.ref q_piece) 0 0 0 0 (xs (Int32.toNatClampNeg 1)) (xs (Int32.toNatClampNeg 2))) (cwV 2 hw0 (gd_V 368 369 370 173 371 rfl rfl rfl rfl rfl) rfl rfl rfl (by decide +kernel) ⟨by decide +kernel, by decide +kernel⟩) (prV_E hPc hKc hDc hN (va_recv hKc hPc (ci := 7) (q0 := 0) rfl rfl)) rfl rfl hl.1 rfl (lv_room (Nat.le_of_ble_eq_true rfl)) d_L_law_450 ⟨by decide +kernel, by decide +kernel⟩) hS (fun q _ h => hFc q h) hFc (fun r_8 u t H1 locs ht hvm hw hB hz1 hk1 hS => ?_)
  obtain ⟨hP1, hK1, hD1⟩ := hB
  rw [ht] at hP1
  have hK1 := va_K.moved hvm.symm hK1
  try dsimp only at hw
  obtain ⟨hP, hD⟩ := va_join (wr := [(qb, .inr (1, [.ref qy, .int 0])), (qy, .inl (cB, 256, .inl (fun _ => 0))), (qf, .inr (1, [.ref qz, .int 0])), (q_buffer, .inl (cB2, 256, .inl (fun _ => 0))), (q_lengths, .inl (cS, 512, .inl (gL))), (qo, .inl (cO, 1, .inr (.inl (g_4))))]) (w1 := [(qM, .inr (7, [.int 0, .int 0, .int (-1), .ref q_buffer, .int 0, .int 0, .ref q_gone, .ref q_first, .ref q_many, .ref q_lengths, .ref q_authors, .ref q_sums, .ref q_row, .ref q_made, .int 0, .ref q_base, .int 0, .ref q_text, .int (-1), .int (-1), .ref q_other, .int 0, .ref q_piece, .int 0, .int 0, .int 0, .int 0]))]) hP hD [3] [0, 1, 2, 4, 5, 6] rfl rfl (by decide) (by decide) hk1 hFc hP1 hD1
  generalize H1 = H at hP hS ⊢
  replace hP : va_P (dC, dI) vwCl [(qb, .inr (1, [.ref qy, .int 0])), (qy, .inl (cB, 256, .inl (fun _ => 0))), (qf, .inr (1, [.ref qz, .int 0])), (q_buffer, .inl (cB2, 256, .inl (fun _ => 0))), (q_lengths, .inl (cS, 512, .inl (gL))), (qo, .inl (cO, 1, .inr (.inl (g_4)))), (qM, .inr (7, [.int 0, .int 0, .int (-1), .ref q_buffer, .int 0, .int 0, .ref q_gone, .ref q_first, .ref q_many, .ref q_lengths, .ref q_authors, .ref q_sums, .ref q_row, .ref q_made, .int 0, .ref q_base, .int 0, .ref q_text, .int (-1), .int (-1), .ref q_other, .int 0, .ref q_piece, .int 0, .int 0, .int 0, .int 0]))] H := hP
  replace hD : va_D (fun q : Nat => s.heap.size ≤ q) [(qb, .inr (1, [.ref qy, .int 0])), (qy, .inl (cB, 256, .inl (fun _ => 0))), (qf, .inr (1, [.ref qz, .int 0])), (q_buffer, .inl (cB2, 256, .inl (fun _ => 0))), (q_lengths, .inl (cS, 512, .inl (gL))), (qo, .inl (cO, 1, .inr (.inl (g_4)))), (qM, .inr (7, [.int 0, .int 0, .int (-1), .ref q_buffer, .int 0, .int 0, .ref q_gone, .ref q_first, .ref q_many, .ref q_lengths, .ref q_authors, .ref q_sums, .ref q_row, .ref q_made, .int 0, .ref q_base, .int 0, .ref q_text, .int (-1), .int (-1), .ref q_other, .int 0, .ref q_piece, .int 0, .int 0, .int 0, .int 0]))] := hD
  replace hK : va_K (dC, dI) vwCl [(cD, .object R_D), (cB, .byte), (cB2, .byte), (cS, .short), (cO, .long)] s := hK
  obtain rfl : r_8 = (-1) := hw
  refine lv_istore (lv' := [(6, .int (-1)), (5, .int 0), (4, .int 0), (3, .ref qo), (2, .ref qM), (1, .ref qK), (0, .ref b)]) hx hb d_L_law_453 hl (by decide) rfl (fun ls hl => ?_)
  refine lv_aload_n hx hb d_L_law_455 rfl (lv_at hl 4 rfl) ?_
  have hPc := hP.sub (ws' := [(qM, .inr (7, [.int 0, .int 0, .int (-1), .ref q_buffer, .int 0, .int 0, .ref q_gone, .ref q_first, .ref q_many, .ref q_lengths, .ref q_authors, .ref q_sums, .ref q_row, .ref q_made, .int 0, .ref q_base, .int 0, .ref q_text, .int (-1), .int (-1), .ref q_other, .int 0, .ref q_piece, .int 0, .int 0, .int 0, .int 0]))]) [6] rfl
  have hKc := hK.sub (tys' := []) [] rfl
  refine ps_i (va_runV (As := []) (rest := []) ⟨hx, hb, hml, hown, hw0⟩ (m_thrown l dC dI qM 0 0 (-1) (.ref q_buffer) 0 0 (.ref q_gone) (.ref q_first) (.ref q_many) (.ref q_lengths) (.ref q_authors) (.ref q_sums) (.ref q_row) (.ref q_made) 0 (.ref q_base) 0 (.ref q_text) (-1) (-1) (.ref q_other) 0 (.ref q_piece) 0 0 0 0) (cwV 0 hw0 (gd_V 340 341 342 173 343 rfl rfl rfl rfl rfl) rfl rfl rfl (by decide +kernel) ⟨by decide +kernel, by decide +kernel⟩) (prV_R hPc hKc hN (va_recv hKc hPc (ci := 7) (q0 := 0) rfl rfl)) rfl rfl hl.1 rfl (lv_room (Nat.le_of_ble_eq_true rfl)) d_L_law_456 ⟨by decide +kernel, by decide +kernel⟩) (fun r_10 hr_10 => ?_)
  obtain rfl : r_10 = 0 := hr_10
  refine lv_iload hx hb d_L_law_459 (lv_at hl 1 rfl) ?_
  refine lv_icmp_eq (tgt := 466) hx hb d_L_law_461 (by decide) (fun _ => ?_) (fun h9 => absurd h9 (by decide +kernel))
  refine lv_iload hx hb d_L_law_466 (lv_at hl 1 rfl) ?_
  refine lv_if_ne (tgt := 483) hx hb d_L_law_468 (by decide) (fun h9 => absurd h9 (by decide +kernel)) (fun _ => ?_)
  refine lv_aload_n hx hb d_L_law_471 rfl (lv_at hl 3 rfl) ?_
  refine lv_iconst (v := 0) hx hb d_L_law_472 (by decide) ?_
  refine va_lald hx hb hK hP 5 4 rfl rfl (by unfold vp_in; decide +kernel) d_L_law_473 ?_
  refine lv_topl (fun x_11 ex_11 => ?_)
  obtain rfl : x_11 = (-1) := ex_11.trans (by rw [sb_cl0]; exact hu_5)
  clear ex_11
  refine lv_iload hx hb d_L_law_474 (lv_at hl 0 rfl) ?_
  refine lv_i2l (v := (-1)) hx hb d_L_law_476 (by decide +kernel) ?_
  refine W.lcmp hx hb d_L_law_477 ?_
  refine lv_topi (fun x_12 ex_12 => ?_)
  obtain rfl : x_12 = 0 := ex_12.trans (by decide +kernel)
  clear ex_12
  refine lv_if_eq (tgt := 483) hx hb d_L_law_478 (by decide) (fun _ => ?_) (fun h9 => absurd h9 (by decide +kernel))
  refine lv_goto (tgt := 1332) hx hb d_L_law_483 (by decide) ?_
  refine W.widen (k := 600002) (n := 7302232) (by decide +kernel) (by decide +kernel) ?_
  exact law_end l hl9 C0 _ _ hS ls (lv_sub hl [2, 6] rfl)
