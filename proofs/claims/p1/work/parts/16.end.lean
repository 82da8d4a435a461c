theorem nw0_tbl : ∀ w ∈ nw0, w ∈ lw_tbl := by decide +kernel
theorem ao0_tbl : ∀ C ∈ ao0, Cond.arrayOver (.object C) ∈ lw_tbl := by decide +kernel
set_option maxHeartbeats 8000000 in
set_option maxRecDepth 100000 in
theorem whole_start {p : Program} {e : Env} {s : State} {m : MethodId} {below : List Frame} {meth : Method} {c : Code} (l : Launch) (hl9 : l.stackTraces = false) {b L : Nat} {xs : Nat → Int32} (hL : L ≤ 6) (C0 : lw_At p s m meth c b L xs) : W p l e room_1 s m #[Value.ref b] below meth c s.heap [] 0 0 (lw_Z below #[Value.ref b] s) (entryFrame m ([Value.ref b] : List Value).toArray 7) := by
  obtain ⟨hx, hb, hr, hml, hown, hts, hX, hbl, hlocks, hgv⟩ := id C0
  have hw0 : ∀ w ∈ w0, w.before #[Value.ref b] s = true := fun w h => hts w (w0_ok w h).1
  have hA : ∀ q : Nat, s.heap.size ≤ q → (fun q : Nat => s.heap.size ≤ q) q := fun _ h => h
  have hbA : ¬ (fun q : Nat => s.heap.size ≤ q) b := Nat.not_le.mpr hbl
  obtain ⟨c0, iS0, hKn0⟩ := u_known (C := R_K) (T := F_K) (N := 9) (n := 9) hw0 in_K (hts (.instantiable R_K 9) (by decide +kernel))
  obtain ⟨c1, iS1, hKn1⟩ := u_known (C := R_T) (T := F_T) (N := 2) (n := 2) hw0 in_T (hts (.instantiable R_T 2) (by decide +kernel))
  obtain ⟨c2, iS2, hKn2⟩ := u_known (C := R_M) (T := F_M) (N := 4) (n := 4) hw0 in_M (hts (.instantiable R_M 4) (by decide +kernel))
  obtain ⟨c3, iS3, hKn3⟩ := u_known (C := R_W) (T := F_W) (N := 2) (n := 2) hw0 in_W (hts (.instantiable R_W 2) (by decide +kernel))
  obtain ⟨c4, iS4, hKn4⟩ := u_known (C := R_P) (T := F_P) (N := 3) (n := 3) hw0 in_P (hts (.instantiable R_P 3) (by decide +kernel))
  obtain ⟨c5, iS5, hKn5⟩ := u_known (C := R_D) (T := F_D) (N := 3) (n := 3) hw0 in_D (hts (.instantiable R_D 3) (by decide +kernel))
  obtain ⟨c6, iS6, hKn6⟩ := u_known (C := R_V) (T := F_V) (N := 3) (n := 3) hw0 in_V (hts (.instantiable R_V 3) (by decide +kernel))
  obtain ⟨c7, iS7, hKn7⟩ := u_known (C := R_O) (T := F_O) (N := 27) (n := 27) hw0 in_O (hts (.instantiable R_O 27) (by decide +kernel))
  obtain ⟨dC, dI, hKc⟩ : ∃ (dC : Nat → ClassId) (dI : Nat → Nat → Nat), ∀ (k : Nat) (q : vw_C), vwCl[k]? = some q → u_Kn s q.1 q.2.1 q.2.2 (dC k) (dI k) := by
    refine ⟨fun k => if k = 0 then c0 else if k = 1 then c1 else if k = 2 then c2 else if k = 3 then c3 else if k = 4 then c4 else if k = 5 then c5 else if k = 6 then c6 else c7, fun k => if k = 0 then iS0 else if k = 1 then iS1 else if k = 2 then iS2 else if k = 3 then iS3 else if k = 4 then iS4 else if k = 5 then iS5 else if k = 6 then iS6 else iS7, ?_⟩
    intro k q hq
    match k, hq with
    | 0, hq => cases hq; exact hKn0
    | 1, hq => cases hq; exact hKn1
    | 2, hq => cases hq; exact hKn2
    | 3, hq => cases hq; exact hKn3
    | 4, hq => cases hq; exact hKn4
    | 5, hq => cases hq; exact hKn5
    | 6, hq => cases hq; exact hKn6
    | 7, hq => cases hq; exact hKn7
    | k + 8, hq => simp [vwCl] at hq
  have hS : va_S (fun q : Nat => s.heap.size ≤ q) s.heap s.heap [] := va_S.rf
  have hK : va_K (dC, dI) vwCl [] s := ⟨hKc, fun k q h => by simp at h⟩
  have hP : va_P (dC, dI) vwCl [] s.heap := fun k q h => by simp at h
  have hD : va_D (fun q : Nat => s.heap.size ≤ q) [] := ⟨fun i j p q h => by simp at h, fun k q h => by simp at h⟩
  have hN : nw_ok s := ⟨fun w hw => va_Nw.of (nw0_tab w hw) (hts w (nw0_tbl w hw)), fun C hC => va_AO.of (hts _ (ao0_tbl C hC))⟩
  have hfl := flat_of_before _ hgv
  have hTw : tw_ok s := ⟨vx_Zqof (hts (.laysStatic Bundle.tN "UNASSIGNED_STACK" Bundle.steD) (by decide +kernel)) (hts (.initialized Bundle.tN) (by decide +kernel)) (hfl (.isRef (.static Bundle.tN "UNASSIGNED_STACK" Bundle.steD)) (by decide +kernel)) (fun _ _ h => h), vx_Zqof (hts (.laysStatic Bundle.tN "SUPPRESSED_SENTINEL" Bundle.listD) (by decide +kernel)) (hts (.initialized Bundle.tN) (by decide +kernel)) (hfl (.isRef (.static Bundle.tN "SUPPRESSED_SENTINEL" Bundle.listD)) (by decide +kernel)) (fun _ _ h => h)⟩
  have hl := lv_entry ([.ref b]) (n := 7) (Nat.le_of_ble_eq_true rfl)
  rw [lg_entry_eq]
  generalize (lg_sl ([.ref b]) ++ List.replicate (7 - (lg_sl ([.ref b])).length) Slot.unset).toArray = ls at hl ⊢
  have hl : lv_has ls 7 [(0, .ref b)] := hl
  refine va_new (ci := 0) (fs := [.null, .null, .null, .null, .null, .null, .null, .int 0, .int 0]) (C := R_K) (T := F_K) (N := 9) hx hb hw0 in_K ft_K tk_K hown (hw0 (.classLink R_L 8 R_K) (List.mem_of_getElem? (i := 472) rfl)) (hw0 (.instantiable R_K 9) (List.mem_of_getElem? (i := 473) rfl)) (hw0 (.initialized R_K) (List.mem_of_getElem? (i := 111) rfl)) hK hP hD hS hA rfl (fun j hj => nw_K j hj) (by decide +kernel) (by decide +kernel) d_L_law_0 (fun q_1 H hP hD hS => ?_)
  replace hP : va_P (dC, dI) vwCl [(q_1, .inr (0, [.null, .null, .null, .null, .null, .null, .null, .int 0, .int 0]))] H := hP
  replace hD : va_D (fun q : Nat => s.heap.size ≤ q) [(q_1, .inr (0, [.null, .null, .null, .null, .null, .null, .null, .int 0, .int 0]))] := hD
  refine W.widen (k := 1) (n := 9) (by decide +kernel) (by decide +kernel) ?_
  refine lv_dup hx hb d_L_law_3 rfl ?_
  have hPc := hP.sub (ws' := [(q_1, .inr (0, [.null, .null, .null, .null, .null, .null, .null, .int 0, .int 0]))]) [0] rfl
  have hKc := hK.sub (tys' := []) [] rfl
  have hDc := hD.sub (ws' := [(q_1, .inr (0, [.null, .null, .null, .null, .null, .null, .null, .int 0, .int 0]))]) [0] (by decide) rfl
  have hFc := va_free (wc := [(q_1, .inr (0, [.null, .null, .null, .null, .null, .null, .null, .int 0, .int 0]))]) hD hS hA [0] rfl
  refine va_callv (va_runI (As := []) (rest := [.ref q_1]) ⟨hx, hb, hml, hown, hw0⟩ (c_Keeper_init l dC dI H.size q_1) (cwI 0 hw0 (gd_I 474 rfl) rfl rfl rfl (hw0 (.initialized R_K) (List.mem_of_getElem? (i := 111) rfl)) (hw0 (.methodLink R_L 75 y_K_init) (List.mem_of_getElem? (i := 475) rfl)) (hw0 (.instanceMethod y_K_init) (List.mem_of_getElem? (i := 476) rfl)) rfl (by decide +kernel) ⟨by decide +kernel, by decide +kernel⟩) (prS_E hPc hKc hDc hN) rfl rfl hl.1 rfl (lv_room (Nat.le_of_ble_eq_true rfl)) d_L_law_4 ⟨by decide +kernel, by decide +kernel⟩) hS (fun q _ h => hFc q h) hFc (fun u t H1 locs ht hvm hw hB hz1 hk1 hS => ?_)
  obtain ⟨qd_2, cD_3, qb_4, qy_5, cB_6, qf_7, qz_8, qc_9, qm_10, qw_11, qp_12, hP1, hK1, hD1⟩ := hB
  rw [ht] at hP1
  have hK1 := va_K.moved hvm.symm hK1
  try dsimp only at hw
  obtain ⟨hP, hD⟩ := va_join (wr := []) (w1 := [(q_1, .inr (0, [.ref qd_2, .ref qb_4, .ref qf_7, .ref qc_9, .ref qm_10, .ref qw_11, .ref qp_12, .int 0, .int (-1)])), (qd_2, .inl (cD_3, 8, .inr (.inr (.inr (.inr (fun _ => none)))))), (qb_4, .inr (1, [.ref qy_5, .int 0])), (qy_5, .inl (cB_6, 256, .inl (fun _ => 0))), (qf_7, .inr (1, [.ref qz_8, .int 0])), (qp_12, .inr (4, [.int 0, .int 0, .int 0]))]) hP hD [0] [] rfl rfl (by decide) (by decide) hk1 hFc hP1 hD1
  have hK := hK.app (hK1.sub (tys' := [(cD_3, .object R_D), (cB_6, .byte)]) [0, 1] rfl)
  generalize H1 = H at hP hS ⊢
  replace hP : va_P (dC, dI) vwCl [(q_1, .inr (0, [.ref qd_2, .ref qb_4, .ref qf_7, .ref qc_9, .ref qm_10, .ref qw_11, .ref qp_12, .int 0, .int (-1)])), (qd_2, .inl (cD_3, 8, .inr (.inr (.inr (.inr (fun _ => none)))))), (qb_4, .inr (1, [.ref qy_5, .int 0])), (qy_5, .inl (cB_6, 256, .inl (fun _ => 0))), (qf_7, .inr (1, [.ref qz_8, .int 0])), (qp_12, .inr (4, [.int 0, .int 0, .int 0]))] H := hP
  replace hD : va_D (fun q : Nat => s.heap.size ≤ q) [(q_1, .inr (0, [.ref qd_2, .ref qb_4, .ref qf_7, .ref qc_9, .ref qm_10, .ref qw_11, .ref qp_12, .int 0, .int (-1)])), (qd_2, .inl (cD_3, 8, .inr (.inr (.inr (.inr (fun _ => none)))))), (qb_4, .inr (1, [.ref qy_5, .int 0])), (qy_5, .inl (cB_6, 256, .inl (fun _ => 0))), (qf_7, .inr (1, [.ref qz_8, .int 0])), (qp_12, .inr (4, [.int 0, .int 0, .int 0]))] := hD
  replace hK : va_K (dC, dI) vwCl [(cD_3, .object R_D), (cB_6, .byte)] s := hK
  refine W.widen (k := 17) (n := 1828) (by decide +kernel) (by decide +kernel) ?_
  refine lv_astore_n (lv' := [(1, .ref q_1), (0, .ref b)]) hx hb d_L_law_7 rfl hl (by decide) rfl (fun ls hl => ?_)
  refine va_new (ci := 7) (fs := [.int 0, .int 0, .int 0, .null, .int 0, .int 0, .null, .null, .null, .null, .null, .null, .null, .null, .int 0, .null, .int 0, .null, .int 0, .int 0, .null, .int 0, .null, .int 0, .int 0, .int 0, .int 0]) (C := R_O) (T := F_O) (N := 27) hx hb hw0 in_O ft_O tk_O hown (hw0 (.classLink R_L 76 R_O) (List.mem_of_getElem? (i := 477) rfl)) (hw0 (.instantiable R_O 27) (List.mem_of_getElem? (i := 478) rfl)) (hw0 (.initialized R_O) (List.mem_of_getElem? (i := 173) rfl)) hK hP hD hS hA rfl (fun j hj => nw_O j hj) (by decide +kernel) (by decide +kernel) d_L_law_8 (fun q_14 H hP hD hS => ?_)
  replace hP : va_P (dC, dI) vwCl [(q_1, .inr (0, [.ref qd_2, .ref qb_4, .ref qf_7, .ref qc_9, .ref qm_10, .ref qw_11, .ref qp_12, .int 0, .int (-1)])), (qd_2, .inl (cD_3, 8, .inr (.inr (.inr (.inr (fun _ => none)))))), (qb_4, .inr (1, [.ref qy_5, .int 0])), (qy_5, .inl (cB_6, 256, .inl (fun _ => 0))), (qf_7, .inr (1, [.ref qz_8, .int 0])), (qp_12, .inr (4, [.int 0, .int 0, .int 0])), (q_14, .inr (7, [.int 0, .int 0, .int 0, .null, .int 0, .int 0, .null, .null, .null, .null, .null, .null, .null, .null, .int 0, .null, .int 0, .null, .int 0, .int 0, .null, .int 0, .null, .int 0, .int 0, .int 0, .int 0]))] H := hP
  replace hD : va_D (fun q : Nat => s.heap.size ≤ q) [(q_1, .inr (0, [.ref qd_2, .ref qb_4, .ref qf_7, .ref qc_9, .ref qm_10, .ref qw_11, .ref qp_12, .int 0, .int (-1)])), (qd_2, .inl (cD_3, 8, .inr (.inr (.inr (.inr (fun _ => none)))))), (qb_4, .inr (1, [.ref qy_5, .int 0])), (qy_5, .inl (cB_6, 256, .inl (fun _ => 0))), (qf_7, .inr (1, [.ref qz_8, .int 0])), (qp_12, .inr (4, [.int 0, .int 0, .int 0])), (q_14, .inr (7, [.int 0, .int 0, .int 0, .null, .int 0, .int 0, .null, .null, .null, .null, .null, .null, .null, .null, .int 0, .null, .int 0, .null, .int 0, .int 0, .null, .int 0, .null, .int 0, .int 0, .int 0, .int 0]))] := hD
  refine W.widen (k := 18) (n := 1855) (by decide +kernel) (by decide +kernel) ?_
  refine lv_dup hx hb d_L_law_11 rfl ?_
  have hPc := hP.sub (ws' := [(q_14, .inr (7, [.int 0, .int 0, .int 0, .null, .int 0, .int 0, .null, .null, .null, .null, .null, .null, .null, .null, .int 0, .null, .int 0, .null, .int 0, .int 0, .null, .int 0, .null, .int 0, .int 0, .int 0, .int 0]))]) [6] rfl
  have hKc := hK.sub (tys' := []) [] rfl
  have hDc := hD.sub (ws' := [(q_14, .inr (7, [.int 0, .int 0, .int 0, .null, .int 0, .int 0, .null, .null, .null, .null, .null, .null, .null, .null, .int 0, .null, .int 0, .null, .int 0, .int 0, .null, .int 0, .null, .int 0, .int 0, .int 0, .int 0]))]) [6] (by decide) rfl
  have hFc := va_free (wc := [(q_14, .inr (7, [.int 0, .int 0, .int 0, .null, .int 0, .int 0, .null, .null, .null, .null, .null, .null, .null, .null, .int 0, .null, .int 0, .null, .int 0, .int 0, .null, .int 0, .null, .int 0, .int 0, .int 0, .int 0]))]) hD hS hA [6] rfl
  refine va_callv (va_runI (As := []) (rest := [.ref q_14]) ⟨hx, hb, hml, hown, hw0⟩ (m_init l dC dI H.size q_14) (cwI 0 hw0 (gd_I 479 rfl) rfl rfl rfl (hw0 (.initialized R_O) (List.mem_of_getElem? (i := 173) rfl)) (hw0 (.methodLink R_L 78 y_O_init) (List.mem_of_getElem? (i := 480) rfl)) (hw0 (.instanceMethod y_O_init) (List.mem_of_getElem? (i := 481) rfl)) rfl (by decide +kernel) ⟨by decide +kernel, by decide +kernel⟩) (prS_E hPc hKc hDc hN) rfl rfl hl.1 rfl (lv_room (Nat.le_of_ble_eq_true rfl)) d_L_law_12 ⟨by decide +kernel, by decide +kernel⟩) hS (fun q _ h => hFc q h) hFc (fun u t H1 locs ht hvm hw hB hz1 hk1 hS => ?_)
  obtain ⟨q_buffer_15, q_gone_16, q_first_17, q_many_18, q_lengths_19, q_authors_20, q_sums_21, q_row_22, q_made_23, q_base_24, q_text_25, q_other_26, q_piece_27, cB_28, cS_29, g_30, hu_31, hP1, hK1, hD1⟩ := hB
  rw [ht] at hP1
  have hK1 := va_K.moved hvm.symm hK1
  try dsimp only at hw
  obtain ⟨hP, hD⟩ := va_join (wr := [(q_1, .inr (0, [.ref qd_2, .ref qb_4, .ref qf_7, .ref qc_9, .ref qm_10, .ref qw_11, .ref qp_12, .int 0, .int (-1)])), (qd_2, .inl (cD_3, 8, .inr (.inr (.inr (.inr (fun _ => none)))))), (qb_4, .inr (1, [.ref qy_5, .int 0])), (qy_5, .inl (cB_6, 256, .inl (fun _ => 0))), (qf_7, .inr (1, [.ref qz_8, .int 0])), (qp_12, .inr (4, [.int 0, .int 0, .int 0]))]) (w1 := [(q_14, .inr (7, [.int 0, .int 0, .int (-1), .ref q_buffer_15, .int 0, .int 0, .ref q_gone_16, .ref q_first_17, .ref q_many_18, .ref q_lengths_19, .ref q_authors_20, .ref q_sums_21, .ref q_row_22, .ref q_made_23, .int 0, .ref q_base_24, .int 0, .ref q_text_25, .int (-1), .int (-1), .ref q_other_26, .int 0, .ref q_piece_27, .int 0, .int 0, .int 0, .int 0])), (q_buffer_15, .inl (cB_28, 256, .inl (fun _ => 0))), (q_lengths_19, .inl (cS_29, 512, .inl (g_30)))]) hP hD [6] [0, 1, 2, 3, 4, 5] rfl rfl (by decide) (by decide) hk1 hFc hP1 hD1
  have hK := hK.app (hK1.sub (tys' := [(cB_28, .byte), (cS_29, .short)]) [0, 1] rfl)
  generalize H1 = H at hP hS ⊢
  replace hP : va_P (dC, dI) vwCl [(q_1, .inr (0, [.ref qd_2, .ref qb_4, .ref qf_7, .ref qc_9, .ref qm_10, .ref qw_11, .ref qp_12, .int 0, .int (-1)])), (qd_2, .inl (cD_3, 8, .inr (.inr (.inr (.inr (fun _ => none)))))), (qb_4, .inr (1, [.ref qy_5, .int 0])), (qy_5, .inl (cB_6, 256, .inl (fun _ => 0))), (qf_7, .inr (1, [.ref qz_8, .int 0])), (qp_12, .inr (4, [.int 0, .int 0, .int 0])), (q_14, .inr (7, [.int 0, .int 0, .int (-1), .ref q_buffer_15, .int 0, .int 0, .ref q_gone_16, .ref q_first_17, .ref q_many_18, .ref q_lengths_19, .ref q_authors_20, .ref q_sums_21, .ref q_row_22, .ref q_made_23, .int 0, .ref q_base_24, .int 0, .ref q_text_25, .int (-1), .int (-1), .ref q_other_26, .int 0, .ref q_piece_27, .int 0, .int 0, .int 0, .int 0])), (q_buffer_15, .inl (cB_28, 256, .inl (fun _ => 0))), (q_lengths_19, .inl (cS_29, 512, .inl (g_30)))] H := hP
  replace hD : va_D (fun q : Nat => s.heap.size ≤ q) [(q_1, .inr (0, [.ref qd_2, .ref qb_4, .ref qf_7, .ref qc_9, .ref qm_10, .ref qw_11, .ref qp_12, .int 0, .int (-1)])), (qd_2, .inl (cD_3, 8, .inr (.inr (.inr (.inr (fun _ => none)))))), (qb_4, .inr (1, [.ref qy_5, .int 0])), (qy_5, .inl (cB_6, 256, .inl (fun _ => 0))), (qf_7, .inr (1, [.ref qz_8, .int 0])), (qp_12, .inr (4, [.int 0, .int 0, .int 0])), (q_14, .inr (7, [.int 0, .int 0, .int (-1), .ref q_buffer_15, .int 0, .int 0, .ref q_gone_16, .ref q_first_17, .ref q_many_18, .ref q_lengths_19, .ref q_authors_20, .ref q_sums_21, .ref q_row_22, .ref q_made_23, .int 0, .ref q_base_24, .int 0, .ref q_text_25, .int (-1), .int (-1), .ref q_other_26, .int 0, .ref q_piece_27, .int 0, .int 0, .int 0, .int 0])), (q_buffer_15, .inl (cB_28, 256, .inl (fun _ => 0))), (q_lengths_19, .inl (cS_29, 512, .inl (g_30)))] := hD
  replace hK : va_K (dC, dI) vwCl [(cD_3, .object R_D), (cB_6, .byte), (cB_28, .byte), (cS_29, .short)] s := hK
  refine W.widen (k := 31) (n := 21679) (by decide +kernel) (by decide +kernel) ?_
  refine lv_astore_n (lv' := [(2, .ref q_14), (1, .ref q_1), (0, .ref b)]) hx hb d_L_law_15 rfl hl (by decide) rfl (fun ls hl => ?_)
  refine lv_iconst (v := 1) hx hb d_L_law_16 (by decide) ?_
  refine va_newa (atype := .long) (ty := .long) (N' := 1) (a0 := (1, .inr (.inl (fun _ => 0)))) hx hb (hw0 (.arrayClass .long) (List.mem_of_getElem? (i := 482) rfl)) rfl hK hP hD hS hA (fun _ => rfl) (by decide +kernel) (by decide +kernel) (by decide +kernel) (by decide +kernel) (by decide +kernel) d_L_law_17 (fun q_32 cA_33 H hK hP hD hS => ?_)
  replace hK : va_K (dC, dI) vwCl [(cD_3, .object R_D), (cB_6, .byte), (cB_28, .byte), (cS_29, .short), (cA_33, .long)] s := hK
  replace hP : va_P (dC, dI) vwCl [(q_1, .inr (0, [.ref qd_2, .ref qb_4, .ref qf_7, .ref qc_9, .ref qm_10, .ref qw_11, .ref qp_12, .int 0, .int (-1)])), (qd_2, .inl (cD_3, 8, .inr (.inr (.inr (.inr (fun _ => none)))))), (qb_4, .inr (1, [.ref qy_5, .int 0])), (qy_5, .inl (cB_6, 256, .inl (fun _ => 0))), (qf_7, .inr (1, [.ref qz_8, .int 0])), (qp_12, .inr (4, [.int 0, .int 0, .int 0])), (q_14, .inr (7, [.int 0, .int 0, .int (-1), .ref q_buffer_15, .int 0, .int 0, .ref q_gone_16, .ref q_first_17, .ref q_many_18, .ref q_lengths_19, .ref q_authors_20, .ref q_sums_21, .ref q_row_22, .ref q_made_23, .int 0, .ref q_base_24, .int 0, .ref q_text_25, .int (-1), .int (-1), .ref q_other_26, .int 0, .ref q_piece_27, .int 0, .int 0, .int 0, .int 0])), (q_buffer_15, .inl (cB_28, 256, .inl (fun _ => 0))), (q_lengths_19, .inl (cS_29, 512, .inl (g_30))), (q_32, .inl (cA_33, 1, .inr (.inl (fun _ => 0))))] H := hP
  replace hD : va_D (fun q : Nat => s.heap.size ≤ q) [(q_1, .inr (0, [.ref qd_2, .ref qb_4, .ref qf_7, .ref qc_9, .ref qm_10, .ref qw_11, .ref qp_12, .int 0, .int (-1)])), (qd_2, .inl (cD_3, 8, .inr (.inr (.inr (.inr (fun _ => none)))))), (qb_4, .inr (1, [.ref qy_5, .int 0])), (qy_5, .inl (cB_6, 256, .inl (fun _ => 0))), (qf_7, .inr (1, [.ref qz_8, .int 0])), (qp_12, .inr (4, [.int 0, .int 0, .int 0])), (q_14, .inr (7, [.int 0, .int 0, .int (-1), .ref q_buffer_15, .int 0, .int 0, .ref q_gone_16, .ref q_first_17, .ref q_many_18, .ref q_lengths_19, .ref q_authors_20, .ref q_sums_21, .ref q_row_22, .ref q_made_23, .int 0, .ref q_base_24, .int 0, .ref q_text_25, .int (-1), .int (-1), .ref q_other_26, .int 0, .ref q_piece_27, .int 0, .int 0, .int 0, .int 0])), (q_buffer_15, .inl (cB_28, 256, .inl (fun _ => 0))), (q_lengths_19, .inl (cS_29, 512, .inl (g_30))), (q_32, .inl (cA_33, 1, .inr (.inl (fun _ => 0))))] := hD
  refine W.widen (k := 32) (n := 21680) (by decide +kernel) (by decide +kernel) ?_
  refine lv_astore_n (lv' := [(3, .ref q_32), (2, .ref q_14), (1, .ref q_1), (0, .ref b)]) hx hb d_L_law_19 rfl hl (by decide) rfl (fun ls hl => ?_)
  refine lv_iconst (v := 0) hx hb d_L_law_20 (by decide) ?_
  refine lv_istore (lv' := [(4, .int 0), (3, .ref q_32), (2, .ref q_14), (1, .ref q_1), (0, .ref b)]) hx hb d_L_law_21 hl (by decide) rfl (fun ls hl => ?_)
  refine lv_iload hx hb d_L_law_23 (lv_at hl 0 rfl) ?_
  refine lv_aload_n hx hb d_L_law_25 rfl (lv_at hl 4 rfl) ?_
  refine va_slen hx hb hX hbl hbA hS d_L_law_26 ?_
  refine lv_bipush (v := 6) hx hb d_L_law_27 (by decide +kernel) ?_
  refine lv_isub hx hb d_L_law_29 ?_
  refine lv_topi (fun x9 ex9 => ?_)
  refine lv_icmp_gt (tgt := 1338) hx hb d_L_law_30 (by decide) (fun c_34 => ?_) (fun c_34 => ?_)
  · refine lv_iconst (v := 1) hx hb d_L_law_1338 (by decide) ?_
    refine va_forget (fun q hq => hS.2.2 q hq) ?_
    refine W.widen (k := 600002) (n := 7302232) (by decide +kernel) (by decide +kernel) ?_
    exact lw_ret hx hb hr hlocks d_L_law_1339
  · obtain rfl : L = 6 := x_L6 hL (by rw [← ex9]; exact c_34)
    refine lv_aload_n hx hb d_L_law_33 rfl (lv_at hl 4 rfl) ?_
    refine lv_iload hx hb d_L_law_34 (lv_at hl 0 rfl) ?_
    refine va_sld hx hb hX hbl hbA hS (by unfold vp_in; decide +kernel) d_L_law_36 ?_
    refine lv_bipush (v := 31) hx hb d_L_law_37 (by decide +kernel) ?_
    refine lv_iand hx hb d_L_law_39 ?_
    obtain ⟨j9, hj9, ej9⟩ := pk_andE ((xs (Int32.toNatClampNeg 0))) (m := 31) 5 (by decide +kernel)
    refine lv_topi (fun x_35 ex_35 => ?_)
    obtain rfl : x_35 = nI j9 := ex_35.trans ej9
    have hP8 := hP.sub (ws' := [(q_1, .inr (0, [.ref qd_2, .ref qb_4, .ref qf_7, .ref qc_9, .ref qm_10, .ref qw_11, .ref qp_12, .int 0, .int (-1)])), (qd_2, .inl (cD_3, 8, .inr (.inr (.inr (.inr (fun _ => none)))))), (qb_4, .inr (1, [.ref qy_5, .int 0])), (qy_5, .inl (cB_6, 256, .inl (fun _ => 0))), (qf_7, .inr (1, [.ref qz_8, .int 0])), (qp_12, .inr (4, [.int 0, .int 0, .int 0])), (q_14, .inr (7, [.int 0, .int 0, .int (-1), .ref q_buffer_15, .int 0, .int 0, .ref q_gone_16, .ref q_first_17, .ref q_many_18, .ref q_lengths_19, .ref q_authors_20, .ref q_sums_21, .ref q_row_22, .ref q_made_23, .int 0, .ref q_base_24, .int 0, .ref q_text_25, .int (-1), .int (-1), .ref q_other_26, .int 0, .ref q_piece_27, .int 0, .int 0, .int 0, .int 0])), (q_buffer_15, .inl (cB_28, 256, .inl (fun _ => 0))), (q_lengths_19, .inl (cS_29, 512, .inl (g_30))), (q_32, .inl (cA_33, 1, .inr (.inl (fun _ => 0))))]) [0, 1, 2, 3, 4, 5, 6, 7, 8, 9] rfl
    have hD8 := hD.sub (ws' := [(q_1, .inr (0, [.ref qd_2, .ref qb_4, .ref qf_7, .ref qc_9, .ref qm_10, .ref qw_11, .ref qp_12, .int 0, .int (-1)])), (qd_2, .inl (cD_3, 8, .inr (.inr (.inr (.inr (fun _ => none)))))), (qb_4, .inr (1, [.ref qy_5, .int 0])), (qy_5, .inl (cB_6, 256, .inl (fun _ => 0))), (qf_7, .inr (1, [.ref qz_8, .int 0])), (qp_12, .inr (4, [.int 0, .int 0, .int 0])), (q_14, .inr (7, [.int 0, .int 0, .int (-1), .ref q_buffer_15, .int 0, .int 0, .ref q_gone_16, .ref q_first_17, .ref q_many_18, .ref q_lengths_19, .ref q_authors_20, .ref q_sums_21, .ref q_row_22, .ref q_made_23, .int 0, .ref q_base_24, .int 0, .ref q_text_25, .int (-1), .int (-1), .ref q_other_26, .int 0, .ref q_piece_27, .int 0, .int 0, .int 0, .int 0])), (q_buffer_15, .inl (cB_28, 256, .inl (fun _ => 0))), (q_lengths_19, .inl (cS_29, 512, .inl (g_30))), (q_32, .inl (cA_33, 1, .inr (.inl (fun _ => 0))))]) [0, 1, 2, 3, 4, 5, 6, 7, 8, 9] (by decide) rfl
    have hK8 := hK.sub (tys' := [(cD_3, .object R_D), (cB_6, .byte), (cB_28, .byte), (cS_29, .short), (cA_33, .long)]) [0, 1, 2, 3, 4] rfl
    refine W.widen (k := 32) (n := 26000) (by decide +kernel) (by decide +kernel) ?_
    have hcase : j9 = 0 ∨ j9 = 1 ∨ j9 = 2 ∨ j9 = 3 ∨ j9 = 4 ∨ j9 = 5 ∨ j9 = 6 ∨ j9 = 7 ∨ j9 = 8 ∨ j9 = 9 ∨ j9 = 10 ∨ j9 = 11 ∨ j9 = 12 ∨ j9 = 13 ∨ j9 = 14 ∨ j9 = 15 ∨ j9 = 16 ∨ j9 = 17 ∨ j9 = 18 ∨ 18 < j9 := by omega
    rcases hcase with rfl | rfl | rfl | rfl | rfl | rfl | rfl | rfl | rfl | rfl | rfl | rfl | rfl | rfl | rfl | rfl | rfl | rfl | rfl | h18
    · refine lv_tableIn (tgt := 132) hx hb d_L_law_40 (by decide +kernel) (by decide +kernel) rfl (by decide) ?_
      exact law_case_0 l hl9 C0 q_1 qd_2 qb_4 qy_5 qf_7 qz_8 qc_9 qm_10 qw_11 qp_12 q_14 q_buffer_15 q_gone_16 q_first_17 q_many_18 q_lengths_19 q_authors_20 q_sums_21 q_row_22 q_made_23 q_base_24 q_text_25 q_other_26 q_piece_27 q_32 cD_3 cB_6 cB_28 cS_29 cA_33 g_30 hu_31 hN hTw hK8 _ _ hP8 hD8 hS ls (lv_sub hl [0, 1, 2, 3, 4] rfl)
    · refine lv_tableIn (tgt := 243) hx hb d_L_law_40 (by decide +kernel) (by decide +kernel) rfl (by decide) ?_
      by_cases h1 : (xs (Int32.toNatClampNeg 1)) < 0
      · exact law_case_1_F l hl9 C0 q_1 qd_2 qb_4 qy_5 qf_7 qz_8 qc_9 qm_10 qw_11 qp_12 q_14 q_buffer_15 q_gone_16 q_first_17 q_many_18 q_lengths_19 q_authors_20 q_sums_21 q_row_22 q_made_23 q_base_24 q_text_25 q_other_26 q_piece_27 q_32 cD_3 cB_6 cB_28 cS_29 cA_33 g_30 hu_31 (Or.inl h1) hN hTw hK8 _ _ hP8 hD8 hS ls (lv_sub hl [0, 1, 2, 3, 4] rfl)
      · by_cases h2 : 0 < (xs (Int32.toNatClampNeg 1))
        · exact law_case_1_F l hl9 C0 q_1 qd_2 qb_4 qy_5 qf_7 qz_8 qc_9 qm_10 qw_11 qp_12 q_14 q_buffer_15 q_gone_16 q_first_17 q_many_18 q_lengths_19 q_authors_20 q_sums_21 q_row_22 q_made_23 q_base_24 q_text_25 q_other_26 q_piece_27 q_32 cD_3 cB_6 cB_28 cS_29 cA_33 g_30 hu_31 (Or.inr h2) hN hTw hK8 _ _ hP8 hD8 hS ls (lv_sub hl [0, 1, 2, 3, 4] rfl)
        · exact law_case_1_T l hl9 C0 q_1 qd_2 qb_4 qy_5 qf_7 qz_8 qc_9 qm_10 qw_11 qp_12 q_14 q_buffer_15 q_gone_16 q_first_17 q_many_18 q_lengths_19 q_authors_20 q_sums_21 q_row_22 q_made_23 q_base_24 q_text_25 q_other_26 q_piece_27 q_32 cD_3 cB_6 cB_28 cS_29 cA_33 g_30 hu_31 h1 h2 hN hTw hK8 _ _ hP8 hD8 hS ls (lv_sub hl [0, 1, 2, 3, 4] rfl)
    · refine lv_tableIn (tgt := 306) hx hb d_L_law_40 (by decide +kernel) (by decide +kernel) rfl (by decide) ?_
      exact law_case_2 l hl9 C0 q_1 qd_2 qb_4 qy_5 qf_7 qz_8 qc_9 qm_10 qw_11 qp_12 q_14 q_buffer_15 q_gone_16 q_first_17 q_many_18 q_lengths_19 q_authors_20 q_sums_21 q_row_22 q_made_23 q_base_24 q_text_25 q_other_26 q_piece_27 q_32 cD_3 cB_6 cB_28 cS_29 cA_33 g_30 hu_31 hN hTw hK8 _ _ hP8 hD8 hS ls (lv_sub hl [0, 1, 2, 3, 4] rfl)
    · refine lv_tableIn (tgt := 350) hx hb d_L_law_40 (by decide +kernel) (by decide +kernel) rfl (by decide) ?_
      exact law_case_3 l hl9 C0 q_1 qd_2 qb_4 qy_5 qf_7 qz_8 qc_9 qm_10 qw_11 qp_12 q_14 q_buffer_15 q_gone_16 q_first_17 q_many_18 q_lengths_19 q_authors_20 q_sums_21 q_row_22 q_made_23 q_base_24 q_text_25 q_other_26 q_piece_27 q_32 cD_3 cB_6 cB_28 cS_29 cA_33 g_30 hu_31 hN hTw hK8 _ _ hP8 hD8 hS ls (lv_sub hl [0, 1, 2, 3, 4] rfl)
    · refine lv_tableIn (tgt := 418) hx hb d_L_law_40 (by decide +kernel) (by decide +kernel) rfl (by decide) ?_
      exact law_case_4 l hl9 C0 q_1 qd_2 qb_4 qy_5 qf_7 qz_8 qc_9 qm_10 qw_11 qp_12 q_14 q_buffer_15 q_gone_16 q_first_17 q_many_18 q_lengths_19 q_authors_20 q_sums_21 q_row_22 q_made_23 q_base_24 q_text_25 q_other_26 q_piece_27 q_32 cD_3 cB_6 cB_28 cS_29 cA_33 g_30 hu_31 hN hTw hK8 _ _ hP8 hD8 hS ls (lv_sub hl [0, 1, 2, 3, 4] rfl)
    · refine lv_tableIn (tgt := 486) hx hb d_L_law_40 (by decide +kernel) (by decide +kernel) rfl (by decide) ?_
      exact law_case_5 l hl9 C0 q_1 qd_2 qb_4 qy_5 qf_7 qz_8 qc_9 qm_10 qw_11 qp_12 q_14 q_buffer_15 q_gone_16 q_first_17 q_many_18 q_lengths_19 q_authors_20 q_sums_21 q_row_22 q_made_23 q_base_24 q_text_25 q_other_26 q_piece_27 q_32 cD_3 cB_6 cB_28 cS_29 cA_33 g_30 hu_31 hN hTw hK8 _ _ hP8 hD8 hS ls (lv_sub hl [0, 1, 2, 3, 4] rfl)
    · refine lv_tableIn (tgt := 542) hx hb d_L_law_40 (by decide +kernel) (by decide +kernel) rfl (by decide) ?_
      exact law_case_6 l hl9 C0 q_1 qd_2 qb_4 qy_5 qf_7 qz_8 qc_9 qm_10 qw_11 qp_12 q_14 q_buffer_15 q_gone_16 q_first_17 q_many_18 q_lengths_19 q_authors_20 q_sums_21 q_row_22 q_made_23 q_base_24 q_text_25 q_other_26 q_piece_27 q_32 cD_3 cB_6 cB_28 cS_29 cA_33 g_30 hu_31 hN hTw hK8 _ _ hP8 hD8 hS ls (lv_sub hl [0, 1, 2, 3, 4] rfl)
    · refine lv_tableIn (tgt := 586) hx hb d_L_law_40 (by decide +kernel) (by decide +kernel) rfl (by decide) ?_
      exact law_case_7 l hl9 C0 q_1 qd_2 qb_4 qy_5 qf_7 qz_8 qc_9 qm_10 qw_11 qp_12 q_14 q_buffer_15 q_gone_16 q_first_17 q_many_18 q_lengths_19 q_authors_20 q_sums_21 q_row_22 q_made_23 q_base_24 q_text_25 q_other_26 q_piece_27 q_32 cD_3 cB_6 cB_28 cS_29 cA_33 g_30 hu_31 hN hTw hK8 _ _ hP8 hD8 hS ls (lv_sub hl [0, 1, 2, 3, 4] rfl)
    · refine lv_tableIn (tgt := 661) hx hb d_L_law_40 (by decide +kernel) (by decide +kernel) rfl (by decide) ?_
      exact law_case_8 l hl9 C0 q_1 qd_2 qb_4 qy_5 qf_7 qz_8 qc_9 qm_10 qw_11 qp_12 q_14 q_buffer_15 q_gone_16 q_first_17 q_many_18 q_lengths_19 q_authors_20 q_sums_21 q_row_22 q_made_23 q_base_24 q_text_25 q_other_26 q_piece_27 q_32 cD_3 cB_6 cB_28 cS_29 cA_33 g_30 hu_31 hN hTw hK8 _ _ hP8 hD8 hS ls (lv_sub hl [0, 1, 2, 3, 4] rfl)
    · refine lv_tableIn (tgt := 724) hx hb d_L_law_40 (by decide +kernel) (by decide +kernel) rfl (by decide) ?_
      exact law_case_9 l hl9 C0 q_1 qd_2 qb_4 qy_5 qf_7 qz_8 qc_9 qm_10 qw_11 qp_12 q_14 q_buffer_15 q_gone_16 q_first_17 q_many_18 q_lengths_19 q_authors_20 q_sums_21 q_row_22 q_made_23 q_base_24 q_text_25 q_other_26 q_piece_27 q_32 cD_3 cB_6 cB_28 cS_29 cA_33 g_30 hu_31 hN hTw hK8 _ _ hP8 hD8 hS ls (lv_sub hl [0, 1, 2, 3, 4] rfl)
    · refine lv_tableIn (tgt := 792) hx hb d_L_law_40 (by decide +kernel) (by decide +kernel) rfl (by decide) ?_
      exact law_case_10 l hl9 C0 q_1 qd_2 qb_4 qy_5 qf_7 qz_8 qc_9 qm_10 qw_11 qp_12 q_14 q_buffer_15 q_gone_16 q_first_17 q_many_18 q_lengths_19 q_authors_20 q_sums_21 q_row_22 q_made_23 q_base_24 q_text_25 q_other_26 q_piece_27 q_32 cD_3 cB_6 cB_28 cS_29 cA_33 g_30 hu_31 hN hTw hK8 _ _ hP8 hD8 hS ls (lv_sub hl [0, 1, 2, 3, 4] rfl)
    · refine lv_tableIn (tgt := 872) hx hb d_L_law_40 (by decide +kernel) (by decide +kernel) rfl (by decide) ?_
      exact law_case_11 l hl9 C0 q_1 qd_2 qb_4 qy_5 qf_7 qz_8 qc_9 qm_10 qw_11 qp_12 q_14 q_buffer_15 q_gone_16 q_first_17 q_many_18 q_lengths_19 q_authors_20 q_sums_21 q_row_22 q_made_23 q_base_24 q_text_25 q_other_26 q_piece_27 q_32 cD_3 cB_6 cB_28 cS_29 cA_33 g_30 hu_31 hN hTw hK8 _ _ hP8 hD8 hS ls (lv_sub hl [0, 1, 2, 3, 4] rfl)
    · refine lv_tableIn (tgt := 952) hx hb d_L_law_40 (by decide +kernel) (by decide +kernel) rfl (by decide) ?_
      exact law_case_12 l hl9 C0 q_1 qd_2 qb_4 qy_5 qf_7 qz_8 qc_9 qm_10 qw_11 qp_12 q_14 q_buffer_15 q_gone_16 q_first_17 q_many_18 q_lengths_19 q_authors_20 q_sums_21 q_row_22 q_made_23 q_base_24 q_text_25 q_other_26 q_piece_27 q_32 cD_3 cB_6 cB_28 cS_29 cA_33 g_30 hu_31 hN hTw hK8 _ _ hP8 hD8 hS ls (lv_sub hl [0, 1, 2, 3, 4] rfl)
    · refine lv_tableIn (tgt := 1051) hx hb d_L_law_40 (by decide +kernel) (by decide +kernel) rfl (by decide) ?_
      exact law_case_13 l hl9 C0 q_1 qd_2 qb_4 qy_5 qf_7 qz_8 qc_9 qm_10 qw_11 qp_12 q_14 q_buffer_15 q_gone_16 q_first_17 q_many_18 q_lengths_19 q_authors_20 q_sums_21 q_row_22 q_made_23 q_base_24 q_text_25 q_other_26 q_piece_27 q_32 cD_3 cB_6 cB_28 cS_29 cA_33 g_30 hu_31 hN hTw hK8 _ _ hP8 hD8 hS ls (lv_sub hl [0, 1, 2, 3, 4] rfl)
    · refine lv_tableIn (tgt := 1107) hx hb d_L_law_40 (by decide +kernel) (by decide +kernel) rfl (by decide) ?_
      exact law_case_14 l hl9 C0 q_1 qd_2 qb_4 qy_5 qf_7 qz_8 qc_9 qm_10 qw_11 qp_12 q_14 q_buffer_15 q_gone_16 q_first_17 q_many_18 q_lengths_19 q_authors_20 q_sums_21 q_row_22 q_made_23 q_base_24 q_text_25 q_other_26 q_piece_27 q_32 cD_3 cB_6 cB_28 cS_29 cA_33 g_30 hu_31 hN hTw hK8 _ _ hP8 hD8 hS ls (lv_sub hl [0, 1, 2, 3, 4] rfl)
    · refine lv_tableIn (tgt := 1199) hx hb d_L_law_40 (by decide +kernel) (by decide +kernel) rfl (by decide) ?_
      exact law_case_15 l hl9 C0 q_1 qd_2 qb_4 qy_5 qf_7 qz_8 qc_9 qm_10 qw_11 qp_12 q_14 q_buffer_15 q_gone_16 q_first_17 q_many_18 q_lengths_19 q_authors_20 q_sums_21 q_row_22 q_made_23 q_base_24 q_text_25 q_other_26 q_piece_27 q_32 cD_3 cB_6 cB_28 cS_29 cA_33 g_30 hu_31 hN hTw hK8 _ _ hP8 hD8 hS ls (lv_sub hl [0, 1, 2, 3, 4] rfl)
    · refine lv_tableIn (tgt := 1243) hx hb d_L_law_40 (by decide +kernel) (by decide +kernel) rfl (by decide) ?_
      by_cases h1 : (xs (Int32.toNatClampNeg 1)) < 0
      · exact law_case_16_F l hl9 C0 q_1 qd_2 qb_4 qy_5 qf_7 qz_8 qc_9 qm_10 qw_11 qp_12 q_14 q_buffer_15 q_gone_16 q_first_17 q_many_18 q_lengths_19 q_authors_20 q_sums_21 q_row_22 q_made_23 q_base_24 q_text_25 q_other_26 q_piece_27 q_32 cD_3 cB_6 cB_28 cS_29 cA_33 g_30 hu_31 h1 hN hTw hK8 _ _ hP8 hD8 hS ls (lv_sub hl [0, 1, 2, 3, 4] rfl)
      · exact law_case_16_T l hl9 C0 q_1 qd_2 qb_4 qy_5 qf_7 qz_8 qc_9 qm_10 qw_11 qp_12 q_14 q_buffer_15 q_gone_16 q_first_17 q_many_18 q_lengths_19 q_authors_20 q_sums_21 q_row_22 q_made_23 q_base_24 q_text_25 q_other_26 q_piece_27 q_32 cD_3 cB_6 cB_28 cS_29 cA_33 g_30 hu_31 h1 hN hTw hK8 _ _ hP8 hD8 hS ls (lv_sub hl [0, 1, 2, 3, 4] rfl)
    · refine lv_tableIn (tgt := 1306) hx hb d_L_law_40 (by decide +kernel) (by decide +kernel) rfl (by decide) ?_
      exact law_case_17 l hl9 C0 q_1 qd_2 qb_4 qy_5 qf_7 qz_8 qc_9 qm_10 qw_11 qp_12 q_14 q_buffer_15 q_gone_16 q_first_17 q_many_18 q_lengths_19 q_authors_20 q_sums_21 q_row_22 q_made_23 q_base_24 q_text_25 q_other_26 q_piece_27 q_32 cD_3 cB_6 cB_28 cS_29 cA_33 g_30 hu_31 hN hTw hK8 _ _ hP8 hD8 hS ls (lv_sub hl [0, 1, 2, 3, 4] rfl)
    · refine lv_tableIn (tgt := 1319) hx hb d_L_law_40 (by decide +kernel) (by decide +kernel) rfl (by decide) ?_
      exact law_case_18 l hl9 C0 q_1 qd_2 qb_4 qy_5 qf_7 qz_8 qc_9 qm_10 qw_11 qp_12 q_14 q_buffer_15 q_gone_16 q_first_17 q_many_18 q_lengths_19 q_authors_20 q_sums_21 q_row_22 q_made_23 q_base_24 q_text_25 q_other_26 q_piece_27 q_32 cD_3 cB_6 cB_28 cS_29 cA_33 g_30 hu_31 hN hTw hK8 _ _ hP8 hD8 hS ls (lv_sub hl [0, 1, 2, 3, 4] rfl)
    · refine lv_tableOut (tgt := 1332) hx hb d_L_law_40 (Or.inr (by rw [nI_toInt (by omega)]; omega)) (by decide) ?_
      refine W.widen (k := 600002) (n := 7302232) (by decide +kernel) (by decide +kernel) ?_
      exact law_end l hl9 C0 _ _ hS ls (lv_sub hl [0, 4] rfl)
-- ===== YOUR PART ENDS =====
set_option maxHeartbeats 4000000 in
theorem lw_walk (l : Launch) (hl9 : l.stackTraces = false) (b : Addr) (xs : List Int32) : MetFree l x (headSpec (Jvm.Cond.code x code maxLocals ret :: tables_1) room_1) (lw_P b xs) (fun _ _ _ _ _ => True) lw_Q := by
  refine MetFree.of_bodyS (code := code) (maxLocals := maxLocals) (ret := ret) (by decide) ?_ ?_
  · intro args s m h hn
    obtain ⟨meth, c, h1, h2, h3, h4, h5, h6, -, -⟩ := Cond.code_spec hn (atoms_spec (ws := Jvm.Cond.code x code maxLocals ret :: tables_1) h _ List.mem_cons_self)
    exact ⟨meth, c, h1, h2, h3, h4, h5, h6⟩
  · intro p e s m args below meth c s₁ B hml0 hP _
    obtain ⟨rfl, hx, hbd, hgv⟩ := hP
    obtain ⟨scr, harrAt, hlist, hof, hsmall⟩ := hx
    obtain ⟨hcb, hkn, -, -⟩ := State.arrayAt?_spec harrAt
    have hown : s.vm.findClass R_law = some m.cls := findClass_of_methodNamed B.named
    have hts0 : ∀ c ∈ (Jvm.Cond.code x code maxLocals ret :: tables_1), c.before #[Value.ref b] s = true := atoms_spec (ws := Jvm.Cond.code x code maxLocals ret :: tables_1) B.pre
    have hts : ∀ w ∈ lw_tbl, w.before #[Value.ref b] s = true := k2_hts_sels lw_privs (fun w hw => hts0 w (List.mem_cons_of_mem _ hw)) lw_privs_ok
    have hml : c.maxLocals = 7 := B.maxLocals_eq (hts0 _ List.mem_cons_self)
    have X₀ : Stand p l e room_1 s m #[Value.ref b] below meth c s₁ [] 0 0 := Stand.of_body B
    have hh0 : s₁.heap = s.heap := by rw [B.state]; rfl
    have hsz : scr.slots.size = xs.length := by rw [← Array.length_toList, hlist, List.length_map]
    have hval : ∀ j : Nat, j < xs.length → scr.slots[j]? = some (.int (xs.getD j 0)) := fun j hj => by
      rw [← Array.getElem?_toList, hlist]
      simp [hj]
    have hbl : b < s.heap.size := (Array.getElem?_eq_some_iff.mp hcb).1
    have hX : va_X b xs.length (fun j => xs.getD j 0) s s.heap := ⟨scr, hcb, hof, hkn, hsz, hval⟩
    have K : W p l e room_1 s m #[Value.ref b] below meth c s₁.heap [] 0 0 (lw_Z below #[Value.ref b] s) (entryFrame m ([Value.ref b] : List Value).toArray 7) := by
      rw [hh0]
      exact whole_start l hl9 hbd ⟨B.exec, B.bytes, B.returns, hml, hown, hts, hX, hbl, B.notSynchronized, hgv⟩
    obtain ⟨t, a1, o, b1, b2, b3⟩ := K s₁ rfl X₀
    exact ⟨t, o, a1, b1, b2, b3⟩
theorem lw_pre_spec {args : Array Value} {s : State} (h : (Jvm.Cond.and given_1 narrow_1).before args s = true) (hr : rest_1_c.before args s = true) : ∃ (b : Addr) (xs : List Int32), lw_P b xs args s := by
  have hs := flat_of_before _ h
  have hq := flat_of_before _ hr
  have hc : (Cond.count 1).before args s = true := hs _ (by decide +kernel)
  have harr : (Cond.arrayOf (.arg 0) .int).before args s = true := hs _ (by decide +kernel)
  have hle : (Cond.le (.length (.arg 0)) (.int 6)).before args s = true := hs _ (by decide +kernel)
  have hlen : (Cond.isInt (.length (.arg 0))).before args s = true := hq _ (by decide +kernel)
  have hall : (Cond.all (.arg 0) (.isInt (.elem (.arg 0) (.index 0)))).before args s = true := hq _ (by decide +kernel)
  obtain ⟨b, xs, hb, hx⟩ := State.ints_of_pre rfl harr hlen hall
  have hsm : xs.length < 2 ^ 31 := hx.choose_spec.2.2.2
  have hev : (Term.length (.arg 0)).eval args s none [] s = some (.int xs.length.toInt32) := hx.length_eval hb
  have hv := Cond.le_ints hev (show (Term.int 6).eval args s none [] s = some (.int 6) from rfl)
  have hd : xs.length.toInt32 ≤ 6 := by
    simpa [Cond.before, Cond.holds, hv] using hle
  have hN : xs.length ≤ 6 := (Int32.ofNat_le_ofNat hsm (by decide)).mp (show Int32.ofNat xs.length ≤ Int32.ofNat 6 from hd)
  exact ⟨b, xs, Cond.one_arg hc (show args[0]? = some (.ref b) from hb), hx, hN, h⟩
theorem lw_comes (l : Launch) (hl9 : l.stackTraces = false) : Comes l x (Jvm.Cond.code x code maxLocals ret :: tables_1) room_1 (fun tb e args s => Calls_1 tb e args s ∧ rest_1 tb e args s ∧ Pre_1 tb e args s)
    (fun _ _ args s o t => lw_Q args s o t) := by
  intro p e ha hc hk s m args below hf hfit hheap happ hpre
  obtain ⟨b, xs, hP⟩ := lw_pre_spec hpre.2.2 hpre.2.1
  obtain ⟨k, o, h1, h2, h3, hQ⟩ := lw_walk l hl9 b xs p e ha hc hk s m args below hf ((Spec.applies_iff_loose hf).mp happ).1 hP trivial
  exact ⟨k, o, h1, h2, h3, hQ⟩
theorem lw_frame {s t : State} {o : Outcome} {args : Array Value} (h : Framed s o t [] 600002 7302232) :
    Framed s o t (fieldLocs frame_1_writes args s ++ arrayLocs frame_1_arrays args s ++ staticLocs frame_1_statics s) 600002 7302232 := h
theorem lw_limb (L : Cond) (hL : ∀ (args : Array Value) (s t : State), L.after args s (.returned (some (.int 1))) t = true) :
    ArmFor flags0 classFile x code maxLocals ret World_1 tables_1 room_1 Calls_1 rest_1 Pre_1
      (fun tb e a s o t => postC L tb e a s o t ∧ Framed s o t (fieldLocs frame_1_writes a s ++ arrayLocs frame_1_arrays a s ++ staticLocs frame_1_statics s) 600002 7302232) := by
  intro l hfl _ _ p e ha hc hk s m args below hf hfit hheap happ hpre
  obtain ⟨k, o, h1, h2, h3, rfl, hF⟩ := lw_comes l (by show (!l.flags.contains noTraceFlag) = false; rw [hfl]; decide +kernel) p e ha hc hk s m args below hf hfit hheap happ hpre
  exact ⟨k, _, h1, h2, h3, hL args s _, lw_frame hF⟩
theorem i_vc : Claimed_1_1 ∧ Claimed_1_2 := ⟨lw_limb limb_1_1 (fun args s t => by simp [limb_1_1, Cond.after, Cond.holds, Cond.value]), lw_limb limb_1_2 (fun args s t => Cond.after_iff.mpr (by
  first | (rw [show limb_1_2 = Cond.eq .result (.int 1) from rfl, Cond.eq_ints (x := 1) (y := 1) rfl rfl]; simp; done) | (simp [limb_1_2, Cond.value, Term.eval]; done)))⟩
