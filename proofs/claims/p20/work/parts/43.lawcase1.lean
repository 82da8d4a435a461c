set_option maxHeartbeats 4000000 in
set_option maxRecDepth 100000 in
theorem lw_c_4 {p : Program} {e : Env} {s : State} {m : MethodId} {below : List Frame} {meth : Method} {c : Code} (l : Launch) (hl9 : l.stackTraces = false) {b L : Nat} {xs : Nat → Int32} (hL : L ≤ 3072) (C0 : lw_At p s m meth c b L xs) {dC : Nat → ClassId} {dI : Nat → Nat → Nat} (qK qM qo : Nat) (cB cD cR cO cB2 cI cL cZ : ClassId) (fo : Nat → Int64) (x : KX) (ds : Nat → Option Dc) (y : MY) (σ : Sg) (i c0 s0 : Nat) (hi : i + 6 ≤ L) (hcc : c0 + 2 ≤ 601024) (hss : s0 + 264 ≤ 7293033) (hsg : sOk σ) (hk : kOk σ x ds) (hm : mOk σ y) (hN : nw_ok s) (hTw : tw_ok s) (hnc : nc_ok s) (hK : va_K (dC, dI) vwCl [(cO, .long), (cB, .byte), (cD, .object R_D), (cR, .object R_V), (cB2, .byte), (cI, .int), (cL, .short), (cZ, .boolean)] s) (H : Heap) (locs : List Loc) (hP : va_P (dC, dI) vwCl ((([(qo, .inl (cO, 1, .inr (.inl (fo))))] : va_W) ++ kW qK cB cD cR x ds) ++ mW qM cB2 cI cL cZ y) H) (hD : va_D (fun q : Nat => s.heap.size ≤ q) ((([(qo, .inl (cO, 1, .inr (.inl (fo))))] : va_W) ++ kW qK cB cD cR x ds) ++ mW qM cB2 cI cL cZ y)) (hS : va_S (fun q : Nat => s.heap.size ≤ q) s.heap H locs) (ls : Array Slot) (hl : lv_has ls 7 [(4, .int (nI i)), (3, .ref qo), (2, .ref qM), (1, .ref qK), (0, .ref b)]) (kk : ∀ (σ : Sg) (x : KX) (ds : Nat → Option Dc) (y : MY) (fo : Nat → Int64) (H : Heap) (locs : List Loc) (ls : Array Slot), sOk σ → kOk σ x ds → mOk σ y → va_P (dC, dI) vwCl ((([(qo, .inl (cO, 1, .inr (.inl (fo))))] : va_W) ++ kW qK cB cD cR x ds) ++ mW qM cB2 cI cL cZ y) H → va_D (fun q : Nat => s.heap.size ≤ q) ((([(qo, .inl (cO, 1, .inr (.inl (fo))))] : va_W) ++ kW qK cB cD cR x ds) ++ mW qM cB2 cI cL cZ y) → va_S (fun q : Nat => s.heap.size ≤ q) s.heap H locs → lv_has ls 7 [(4, .int (nI i)), (3, .ref qo), (2, .ref qM), (1, .ref qK), (0, .ref b)] → W p l e room_1 s m #[Value.ref b] below meth c H locs (c0 + 2) (s0 + 264) (lw_Z below #[Value.ref b] s) (F0 m 814 ls [])) : W p l e room_1 s m #[Value.ref b] below meth c H locs c0 s0 (lw_Z below #[Value.ref b] s) (F0 m 292 ls []) := by
  obtain ⟨hx, hb, hr, hml, hown, hts, hX, hbl, hlocks, hgv⟩ := id C0
  have hw0 : ∀ w ∈ w0, w.before #[Value.ref b] s = true := fun w h => hts w (w0_ok w h).1
  have hA : ∀ q : Nat, s.heap.size ≤ q → (fun q : Nat => s.heap.size ≤ q) q := fun _ h => h
  have hbA : ¬ (fun q : Nat => s.heap.size ≤ q) b := Nat.not_le.mpr hbl
  refine lv_aload_n hx hb d_L_law_292 rfl (lv_at hl 3 rfl) ?_
  refine lv_aload_n hx hb d_L_law_293 rfl (lv_at hl 4 rfl) ?_
  refine lv_iload hx hb d_L_law_294 (lv_at hl 0 rfl) ?_
  refine lv_iconst (v := 1) hx hb d_L_law_296 (by decide) ?_
  refine lv_iadd hx hb d_L_law_297 ?_
  refine lv_topi (fun x_1 ex_1 => ?_)
  obtain rfl : x_1 = nI (i + 1) := ex_1.trans (nI_add i 1)
  refine va_sld hx hb hX hbl hbA hS (x_inK (Nat.le_refl L) (by omega) (nI_pos (by omega)) (nI_ge (by omega) (by omega))) d_L_law_298 ?_
  refine lv_aload_n hx hb d_L_law_299 rfl (lv_at hl 4 rfl) ?_
  refine lv_iload hx hb d_L_law_300 (lv_at hl 0 rfl) ?_
  refine lv_iconst (v := 2) hx hb d_L_law_302 (by decide) ?_
  refine lv_iadd hx hb d_L_law_303 ?_
  refine lv_topi (fun x_2 ex_2 => ?_)
  obtain rfl : x_2 = nI (i + 2) := ex_2.trans (nI_add i 2)
  refine va_sld hx hb hX hbl hbA hS (x_inK (Nat.le_refl L) (by omega) (nI_pos (by omega)) (nI_ge (by omega) (by omega))) d_L_law_304 ?_
  refine lv_aload_n hx hb d_L_law_305 rfl (lv_at hl 1 rfl) ?_
  have hPc : va_P (dC, dI) vwCl (([(qo, .inl (cO, 1, .inr (.inl (fo))))] : va_W) ++ kW qK cB cD cR x ds) H := hP.left
  have hDc : va_D (fun q : Nat => s.heap.size ≤ q) (([(qo, .inl (cO, 1, .inr (.inl (fo))))] : va_W) ++ kW qK cB cD cR x ds) := hD.left
  have hKc : va_K (dC, dI) vwCl [(cO, .long), (cB, .byte), (cD, .object R_D), (cR, .object R_V)] s := hK.sub [0, 1, 2, 3] rfl
  have hFc : ∀ q : Nat, va_A (([(qo, .inl (cO, 1, .inr (.inl (fo))))] : va_W) ++ kW qK cB cD cR x ds) H.size q → (fun q : Nat => s.heap.size ≤ q) q := fr_free hD hS hA (List.Perm.refl _)
  have hS0 := hS
  refine va_calli (va_runSW (As := [.ref qK, .int (xs (Int32.toNatClampNeg (nI (i + 1)))), .int (xs (Int32.toNatClampNeg (nI (i + 2)))), .ref qo]) (rest := []) ⟨hx, hb, hml, hown, hw0⟩ (w_fetch l hl9 dC dI H.size qK qo cB cD cR cO fo x ds σ (xs (Int32.toNatClampNeg (nI (i + 1)))) (xs (Int32.toNatClampNeg (nI (i + 2)))) hsg hk) (csw_of 4 hw0 686 542 543 507 rfl rfl rfl rfl rfl rfl (by decide +kernel) ⟨by decide +kernel, by decide +kernel⟩) (prS_T hPc hKc hDc hN hTw (fun a ha => hS.2.1 a ha (Nat.not_le.mpr ha))) rfl rfl hl.1 rfl (lv_room (Nat.le_of_ble_eq_true rfl)) d_L_law_306 ⟨hcc, hss⟩) hS (fun q _ h => hFc q h) hFc (fun r u t H1 locs ht hvm hw hB hz1 hk1 hS => ?_)
  obtain ⟨fo2, x2, ds2, ⟨hk2, hout⟩, hP1, hK1, hD1⟩ := hB
  rw [ht] at hP1
  obtain ⟨hP, hD⟩ := fr_wld (W2 := ((([(qo, .inl (cO, 1, .inr (.inl (fo2))))] : va_W) ++ kW qK cB cD cR x2 ds2) ++ mW qM cB2 cI cL cZ y)) (A := (fun q : Nat => s.heap.size ≤ q)) (fun q hq => hA q (Nat.le_trans hS0.1 hq)) hP hD (List.Perm.refl _) hk1 hP1 hD1 (kz (List.Perm.refl _))
  clear hPc hDc hKc hFc hP1 hD1 hK1 hk1 hS0
  generalize H1 = H at hP hS ⊢
  refine lv_istore (lv' := [(5, .int r), (4, .int (nI i)), (3, .ref qo), (2, .ref qM), (1, .ref qK), (0, .ref b)]) hx hb d_L_law_309 hl (by decide) rfl (fun ls hl => ?_)
  refine lv_aload_n hx hb d_L_law_311 rfl (lv_at hl 3 rfl) ?_
  refine lv_aload_n hx hb d_L_law_312 rfl (lv_at hl 5 rfl) ?_
  refine lv_iload hx hb d_L_law_313 (lv_at hl 1 rfl) ?_
  refine lv_iconst (v := 1) hx hb d_L_law_315 (by decide) ?_
  refine lv_iadd hx hb d_L_law_316 ?_
  refine lv_topi (fun x_3 ex_3 => ?_)
  obtain rfl : x_3 = nI (i + 1) := ex_3.trans (nI_add i 1)
  refine va_sld hx hb hX hbl hbA hS (x_inK (Nat.le_refl L) (by omega) (nI_pos (by omega)) (nI_ge (by omega) (by omega))) d_L_law_317 ?_
  refine lv_aload_n hx hb d_L_law_318 rfl (lv_at hl 5 rfl) ?_
  refine lv_iload hx hb d_L_law_319 (lv_at hl 1 rfl) ?_
  refine lv_iconst (v := 2) hx hb d_L_law_321 (by decide) ?_
  refine lv_iadd hx hb d_L_law_322 ?_
  refine lv_topi (fun x_4 ex_4 => ?_)
  obtain rfl : x_4 = nI (i + 2) := ex_4.trans (nI_add i 2)
  refine va_sld hx hb hX hbl hbA hS (x_inK (Nat.le_refl L) (by omega) (nI_pos (by omega)) (nI_ge (by omega) (by omega))) d_L_law_323 ?_
  have hPc : va_P (dC, dI) vwCl (mW qM cB2 cI cL cZ y) H := (hP.perm List.perm_append_comm).left
  have hDc : va_D (fun q : Nat => s.heap.size ≤ q) (mW qM cB2 cI cL cZ y) := (hD.perm List.perm_append_comm).left
  have hKc : va_K (dC, dI) vwCl (mT cB2 cI cL cZ) s := hK.sub [4, 5, 6, 7] rfl
  have hFc : ∀ q : Nat, va_A (mW qM cB2 cI cL cZ y) H.size q → (fun q : Nat => s.heap.size ≤ q) q := fr_free hD hS hA List.perm_append_comm
  have hS0 := hS
  refine va_calli (va_runV (As := [.int (xs (Int32.toNatClampNeg (nI (i + 1)))), .int (xs (Int32.toNatClampNeg (nI (i + 2))))]) (rest := []) ⟨hx, hb, hml, hown, hw0⟩ (u_fetch l dC dI H.size qM cB2 cI cL cZ y σ (xs (Int32.toNatClampNeg (nI (i + 1)))) (xs (Int32.toNatClampNeg (nI (i + 2)))) hsg hm) (cwV 2 hw0 (gd_V 630 631 632 161 719 rfl rfl rfl rfl rfl) rfl rfl rfl (by decide +kernel) ⟨by decide +kernel, by decide +kernel⟩) (prV_E hPc hKc hDc hN (va_recv hKc hPc (ci := 7) (q0 := 0) rfl rfl)) rfl rfl hl.1 rfl (lv_room (Nat.le_of_ble_eq_true rfl)) d_L_law_324 ⟨hcc, hss⟩) hS (fun q _ h => hFc q h) hFc (fun r2 u t H1 locs ht hvm hw2 hB hz1 hk1 hS => ?_)
  obtain ⟨y2, ⟨hm2, hth⟩, hP1, hK1, hD1⟩ := hB
  rw [ht] at hP1
  obtain ⟨hP, hD⟩ := fr_wld (W2 := ((([(qo, .inl (cO, 1, .inr (.inl (fo2))))] : va_W) ++ kW qK cB cD cR x2 ds2) ++ mW qM cB2 cI cL cZ y2)) (A := (fun q : Nat => s.heap.size ≤ q)) (fun q hq => hA q (Nat.le_trans hS0.1 hq)) hP hD List.perm_append_comm hk1 hP1 hD1 (kz List.perm_append_comm)
  clear hPc hDc hKc hFc hP1 hD1 hK1 hk1 hS0
  generalize H1 = H at hP hS ⊢
  refine W.widen (k := c0 + 2) (n := s0 + 264) (Nat.le_refl _) (Nat.le_refl _) ?_
  refine lv_istore (lv' := [(6, .int r2), (5, .int r), (4, .int (nI i)), (3, .ref qo), (2, .ref qM), (1, .ref qK), (0, .ref b)]) hx hb d_L_law_327 hl (by decide) rfl (fun ls hl => ?_)
  refine lv_goto (tgt := 814) hx hb d_L_law_329 (by decide) ?_
  exact kk _ x2 ds2 y2 fo2 _ _ ls (sOk_of (sW_fetch (sW_of hsg)) hk2) hk2 hm2 hP hD hS (lv_sub hl [2, 3, 4, 5, 6] rfl)
set_option maxHeartbeats 4000000 in
set_option maxRecDepth 100000 in
theorem lw_c_5 {p : Program} {e : Env} {s : State} {m : MethodId} {below : List Frame} {meth : Method} {c : Code} (l : Launch) (hl9 : l.stackTraces = false) {b L : Nat} {xs : Nat → Int32} (hL : L ≤ 3072) (C0 : lw_At p s m meth c b L xs) {dC : Nat → ClassId} {dI : Nat → Nat → Nat} (qK qM qo : Nat) (cB cD cR cO cB2 cI cL cZ : ClassId) (fo : Nat → Int64) (x : KX) (ds : Nat → Option Dc) (y : MY) (σ : Sg) (i c0 s0 : Nat) (hi : i + 6 ≤ L) (hcc : c0 + 2 ≤ 601024) (hss : s0 + 264 ≤ 7293033) (hsg : sOk σ) (hk : kOk σ x ds) (hm : mOk σ y) (hN : nw_ok s) (hTw : tw_ok s) (hnc : nc_ok s) (hK : va_K (dC, dI) vwCl [(cO, .long), (cB, .byte), (cD, .object R_D), (cR, .object R_V), (cB2, .byte), (cI, .int), (cL, .short), (cZ, .boolean)] s) (H : Heap) (locs : List Loc) (hP : va_P (dC, dI) vwCl ((([(qo, .inl (cO, 1, .inr (.inl (fo))))] : va_W) ++ kW qK cB cD cR x ds) ++ mW qM cB2 cI cL cZ y) H) (hD : va_D (fun q : Nat => s.heap.size ≤ q) ((([(qo, .inl (cO, 1, .inr (.inl (fo))))] : va_W) ++ kW qK cB cD cR x ds) ++ mW qM cB2 cI cL cZ y)) (hS : va_S (fun q : Nat => s.heap.size ≤ q) s.heap H locs) (ls : Array Slot) (hl : lv_has ls 7 [(4, .int (nI i)), (3, .ref qo), (2, .ref qM), (1, .ref qK), (0, .ref b)]) (kk : ∀ (σ : Sg) (x : KX) (ds : Nat → Option Dc) (y : MY) (fo : Nat → Int64) (H : Heap) (locs : List Loc) (ls : Array Slot), sOk σ → kOk σ x ds → mOk σ y → va_P (dC, dI) vwCl ((([(qo, .inl (cO, 1, .inr (.inl (fo))))] : va_W) ++ kW qK cB cD cR x ds) ++ mW qM cB2 cI cL cZ y) H → va_D (fun q : Nat => s.heap.size ≤ q) ((([(qo, .inl (cO, 1, .inr (.inl (fo))))] : va_W) ++ kW qK cB cD cR x ds) ++ mW qM cB2 cI cL cZ y) → va_S (fun q : Nat => s.heap.size ≤ q) s.heap H locs → lv_has ls 7 [(4, .int (nI i)), (3, .ref qo), (2, .ref qM), (1, .ref qK), (0, .ref b)] → W p l e room_1 s m #[Value.ref b] below meth c H locs (c0 + 2) (s0 + 264) (lw_Z below #[Value.ref b] s) (F0 m 814 ls [])) : W p l e room_1 s m #[Value.ref b] below meth c H locs c0 s0 (lw_Z below #[Value.ref b] s) (F0 m 332 ls []) := by
  obtain ⟨hx, hb, hr, hml, hown, hts, hX, hbl, hlocks, hgv⟩ := id C0
  have hw0 : ∀ w ∈ w0, w.before #[Value.ref b] s = true := fun w h => hts w (w0_ok w h).1
  have hA : ∀ q : Nat, s.heap.size ≤ q → (fun q : Nat => s.heap.size ≤ q) q := fun _ h => h
  have hbA : ¬ (fun q : Nat => s.heap.size ≤ q) b := Nat.not_le.mpr hbl
  refine lv_aload_n hx hb d_L_law_332 rfl (lv_at hl 3 rfl) ?_
  refine lv_aload_n hx hb d_L_law_333 rfl (lv_at hl 4 rfl) ?_
  refine lv_iload hx hb d_L_law_334 (lv_at hl 0 rfl) ?_
  refine lv_iconst (v := 1) hx hb d_L_law_336 (by decide) ?_
  refine lv_iadd hx hb d_L_law_337 ?_
  refine lv_topi (fun x_1 ex_1 => ?_)
  obtain rfl : x_1 = nI (i + 1) := ex_1.trans (nI_add i 1)
  refine va_sld hx hb hX hbl hbA hS (x_inK (Nat.le_refl L) (by omega) (nI_pos (by omega)) (nI_ge (by omega) (by omega))) d_L_law_338 ?_
  refine lv_aload_n hx hb d_L_law_339 rfl (lv_at hl 1 rfl) ?_
  have hPc : va_P (dC, dI) vwCl (([(qo, .inl (cO, 1, .inr (.inl (fo))))] : va_W) ++ kW qK cB cD cR x ds) H := hP.left
  have hDc : va_D (fun q : Nat => s.heap.size ≤ q) (([(qo, .inl (cO, 1, .inr (.inl (fo))))] : va_W) ++ kW qK cB cD cR x ds) := hD.left
  have hKc : va_K (dC, dI) vwCl [(cO, .long), (cB, .byte), (cD, .object R_D), (cR, .object R_V)] s := hK.sub [0, 1, 2, 3] rfl
  have hFc : ∀ q : Nat, va_A (([(qo, .inl (cO, 1, .inr (.inl (fo))))] : va_W) ++ kW qK cB cD cR x ds) H.size q → (fun q : Nat => s.heap.size ≤ q) q := fr_free hD hS hA (List.Perm.refl _)
  have hS0 := hS
  refine va_calli (va_runSW (As := [.ref qK, .int (xs (Int32.toNatClampNeg (nI (i + 1)))), .ref qo]) (rest := []) ⟨hx, hb, hml, hown, hw0⟩ (w_out l hl9 dC dI H.size qK qo cB cD cR cO fo x ds σ (xs (Int32.toNatClampNeg (nI (i + 1)))) hsg hk) (csw_of 3 hw0 688 547 548 507 rfl rfl rfl rfl rfl rfl (by decide +kernel) ⟨by decide +kernel, by decide +kernel⟩) (prS_T hPc hKc hDc hN hTw (fun a ha => hS.2.1 a ha (Nat.not_le.mpr ha))) rfl rfl hl.1 rfl (lv_room (Nat.le_of_ble_eq_true rfl)) d_L_law_340 ⟨hcc, hss⟩) hS (fun q _ h => hFc q h) hFc (fun r u t H1 locs ht hvm hw hB hz1 hk1 hS => ?_)
  obtain ⟨fo2, x2, ds2, ⟨hk2, hout⟩, hP1, hK1, hD1⟩ := hB
  rw [ht] at hP1
  obtain ⟨hP, hD⟩ := fr_wld (W2 := ((([(qo, .inl (cO, 1, .inr (.inl (fo2))))] : va_W) ++ kW qK cB cD cR x2 ds2) ++ mW qM cB2 cI cL cZ y)) (A := (fun q : Nat => s.heap.size ≤ q)) (fun q hq => hA q (Nat.le_trans hS0.1 hq)) hP hD (List.Perm.refl _) hk1 hP1 hD1 (kz (List.Perm.refl _))
  clear hPc hDc hKc hFc hP1 hD1 hK1 hk1 hS0
  generalize H1 = H at hP hS ⊢
  refine lv_istore (lv' := [(5, .int r), (4, .int (nI i)), (3, .ref qo), (2, .ref qM), (1, .ref qK), (0, .ref b)]) hx hb d_L_law_343 hl (by decide) rfl (fun ls hl => ?_)
  refine lv_aload_n hx hb d_L_law_345 rfl (lv_at hl 3 rfl) ?_
  refine lv_aload_n hx hb d_L_law_346 rfl (lv_at hl 5 rfl) ?_
  refine lv_iload hx hb d_L_law_347 (lv_at hl 1 rfl) ?_
  refine lv_iconst (v := 1) hx hb d_L_law_349 (by decide) ?_
  refine lv_iadd hx hb d_L_law_350 ?_
  refine lv_topi (fun x_2 ex_2 => ?_)
  obtain rfl : x_2 = nI (i + 1) := ex_2.trans (nI_add i 1)
  refine va_sld hx hb hX hbl hbA hS (x_inK (Nat.le_refl L) (by omega) (nI_pos (by omega)) (nI_ge (by omega) (by omega))) d_L_law_351 ?_
  have hPc : va_P (dC, dI) vwCl (mW qM cB2 cI cL cZ y) H := (hP.perm List.perm_append_comm).left
  have hDc : va_D (fun q : Nat => s.heap.size ≤ q) (mW qM cB2 cI cL cZ y) := (hD.perm List.perm_append_comm).left
  have hKc : va_K (dC, dI) vwCl (mT cB2 cI cL cZ) s := hK.sub [4, 5, 6, 7] rfl
  have hFc : ∀ q : Nat, va_A (mW qM cB2 cI cL cZ y) H.size q → (fun q : Nat => s.heap.size ≤ q) q := fr_free hD hS hA List.perm_append_comm
  have hS0 := hS
  refine va_calli (va_runV (As := [.int (xs (Int32.toNatClampNeg (nI (i + 1))))]) (rest := []) ⟨hx, hb, hml, hown, hw0⟩ (u_out l dC dI H.size qM cB2 cI cL cZ y σ (xs (Int32.toNatClampNeg (nI (i + 1)))) hsg hm) (cwV 1 hw0 (gd_V 633 634 635 161 720 rfl rfl rfl rfl rfl) rfl rfl rfl (by decide +kernel) ⟨by decide +kernel, by decide +kernel⟩) (prV_E hPc hKc hDc hN (va_recv hKc hPc (ci := 7) (q0 := 0) rfl rfl)) rfl rfl hl.1 rfl (lv_room (Nat.le_of_ble_eq_true rfl)) d_L_law_352 ⟨hcc, hss⟩) hS (fun q _ h => hFc q h) hFc (fun r2 u t H1 locs ht hvm hw2 hB hz1 hk1 hS => ?_)
  obtain ⟨y2, ⟨hm2, hth⟩, hP1, hK1, hD1⟩ := hB
  rw [ht] at hP1
  obtain ⟨hP, hD⟩ := fr_wld (W2 := ((([(qo, .inl (cO, 1, .inr (.inl (fo2))))] : va_W) ++ kW qK cB cD cR x2 ds2) ++ mW qM cB2 cI cL cZ y2)) (A := (fun q : Nat => s.heap.size ≤ q)) (fun q hq => hA q (Nat.le_trans hS0.1 hq)) hP hD List.perm_append_comm hk1 hP1 hD1 (kz List.perm_append_comm)
  clear hPc hDc hKc hFc hP1 hD1 hK1 hk1 hS0
  generalize H1 = H at hP hS ⊢
  refine W.widen (k := c0 + 2) (n := s0 + 264) (Nat.le_refl _) (Nat.le_refl _) ?_
  refine lv_istore (lv' := [(6, .int r2), (5, .int r), (4, .int (nI i)), (3, .ref qo), (2, .ref qM), (1, .ref qK), (0, .ref b)]) hx hb d_L_law_355 hl (by decide) rfl (fun ls hl => ?_)
  refine lv_goto (tgt := 814) hx hb d_L_law_357 (by decide) ?_
  rw [st_out] at hk2 hm2
  exact kk _ x2 ds2 y2 fo2 _ _ ls hsg hk2 hm2 hP hD hS (lv_sub hl [2, 3, 4, 5, 6] rfl)
set_option maxHeartbeats 4000000 in
set_option maxRecDepth 100000 in
theorem lw_c_6 {p : Program} {e : Env} {s : State} {m : MethodId} {below : List Frame} {meth : Method} {c : Code} (l : Launch) (hl9 : l.stackTraces = false) {b L : Nat} {xs : Nat → Int32} (hL : L ≤ 3072) (C0 : lw_At p s m meth c b L xs) {dC : Nat → ClassId} {dI : Nat → Nat → Nat} (qK qM qo : Nat) (cB cD cR cO cB2 cI cL cZ : ClassId) (fo : Nat → Int64) (x : KX) (ds : Nat → Option Dc) (y : MY) (σ : Sg) (i c0 s0 : Nat) (hi : i + 6 ≤ L) (hcc : c0 + 2 ≤ 601024) (hss : s0 + 264 ≤ 7293033) (hsg : sOk σ) (hk : kOk σ x ds) (hm : mOk σ y) (hN : nw_ok s) (hTw : tw_ok s) (hnc : nc_ok s) (hK : va_K (dC, dI) vwCl [(cO, .long), (cB, .byte), (cD, .object R_D), (cR, .object R_V), (cB2, .byte), (cI, .int), (cL, .short), (cZ, .boolean)] s) (H : Heap) (locs : List Loc) (hP : va_P (dC, dI) vwCl ((([(qo, .inl (cO, 1, .inr (.inl (fo))))] : va_W) ++ kW qK cB cD cR x ds) ++ mW qM cB2 cI cL cZ y) H) (hD : va_D (fun q : Nat => s.heap.size ≤ q) ((([(qo, .inl (cO, 1, .inr (.inl (fo))))] : va_W) ++ kW qK cB cD cR x ds) ++ mW qM cB2 cI cL cZ y)) (hS : va_S (fun q : Nat => s.heap.size ≤ q) s.heap H locs) (ls : Array Slot) (hl : lv_has ls 7 [(4, .int (nI i)), (3, .ref qo), (2, .ref qM), (1, .ref qK), (0, .ref b)]) (kk : ∀ (σ : Sg) (x : KX) (ds : Nat → Option Dc) (y : MY) (fo : Nat → Int64) (H : Heap) (locs : List Loc) (ls : Array Slot), sOk σ → kOk σ x ds → mOk σ y → va_P (dC, dI) vwCl ((([(qo, .inl (cO, 1, .inr (.inl (fo))))] : va_W) ++ kW qK cB cD cR x ds) ++ mW qM cB2 cI cL cZ y) H → va_D (fun q : Nat => s.heap.size ≤ q) ((([(qo, .inl (cO, 1, .inr (.inl (fo))))] : va_W) ++ kW qK cB cD cR x ds) ++ mW qM cB2 cI cL cZ y) → va_S (fun q : Nat => s.heap.size ≤ q) s.heap H locs → lv_has ls 7 [(4, .int (nI i)), (3, .ref qo), (2, .ref qM), (1, .ref qK), (0, .ref b)] → W p l e room_1 s m #[Value.ref b] below meth c H locs (c0 + 2) (s0 + 264) (lw_Z below #[Value.ref b] s) (F0 m 814 ls [])) : W p l e room_1 s m #[Value.ref b] below meth c H locs c0 s0 (lw_Z below #[Value.ref b] s) (F0 m 360 ls []) := by
  obtain ⟨hx, hb, hr, hml, hown, hts, hX, hbl, hlocks, hgv⟩ := id C0
  have hw0 : ∀ w ∈ w0, w.before #[Value.ref b] s = true := fun w h => hts w (w0_ok w h).1
  have hA : ∀ q : Nat, s.heap.size ≤ q → (fun q : Nat => s.heap.size ≤ q) q := fun _ h => h
  have hbA : ¬ (fun q : Nat => s.heap.size ≤ q) b := Nat.not_le.mpr hbl
  refine lv_aload_n hx hb d_L_law_360 rfl (lv_at hl 3 rfl) ?_
  refine lv_aload_n hx hb d_L_law_361 rfl (lv_at hl 1 rfl) ?_
  have hPc : va_P (dC, dI) vwCl (([(qo, .inl (cO, 1, .inr (.inl (fo))))] : va_W) ++ kW qK cB cD cR x ds) H := hP.left
  have hDc : va_D (fun q : Nat => s.heap.size ≤ q) (([(qo, .inl (cO, 1, .inr (.inl (fo))))] : va_W) ++ kW qK cB cD cR x ds) := hD.left
  have hKc : va_K (dC, dI) vwCl [(cO, .long), (cB, .byte), (cD, .object R_D), (cR, .object R_V)] s := hK.sub [0, 1, 2, 3] rfl
  have hFc : ∀ q : Nat, va_A (([(qo, .inl (cO, 1, .inr (.inl (fo))))] : va_W) ++ kW qK cB cD cR x ds) H.size q → (fun q : Nat => s.heap.size ≤ q) q := fr_free hD hS hA (List.Perm.refl _)
  have hS0 := hS
  refine va_calli (va_runSW (As := [.ref qK, .ref qo]) (rest := []) ⟨hx, hb, hml, hown, hw0⟩ (w_steps l hl9 dC dI H.size qK qo cB cD cR cO fo x ds σ hsg hk) (csw_of 2 hw0 690 552 553 507 rfl rfl rfl rfl rfl rfl (by decide +kernel) ⟨by decide +kernel, by decide +kernel⟩) (prS_T hPc hKc hDc hN hTw (fun a ha => hS.2.1 a ha (Nat.not_le.mpr ha))) rfl rfl hl.1 rfl (lv_room (Nat.le_of_ble_eq_true rfl)) d_L_law_362 ⟨hcc, hss⟩) hS (fun q _ h => hFc q h) hFc (fun r u t H1 locs ht hvm hw hB hz1 hk1 hS => ?_)
  obtain ⟨fo2, x2, ds2, ⟨hk2, hout⟩, hP1, hK1, hD1⟩ := hB
  rw [ht] at hP1
  obtain ⟨hP, hD⟩ := fr_wld (W2 := ((([(qo, .inl (cO, 1, .inr (.inl (fo2))))] : va_W) ++ kW qK cB cD cR x2 ds2) ++ mW qM cB2 cI cL cZ y)) (A := (fun q : Nat => s.heap.size ≤ q)) (fun q hq => hA q (Nat.le_trans hS0.1 hq)) hP hD (List.Perm.refl _) hk1 hP1 hD1 (kz (List.Perm.refl _))
  clear hPc hDc hKc hFc hP1 hD1 hK1 hk1 hS0
  generalize H1 = H at hP hS ⊢
  refine lv_istore (lv' := [(5, .int r), (4, .int (nI i)), (3, .ref qo), (2, .ref qM), (1, .ref qK), (0, .ref b)]) hx hb d_L_law_365 hl (by decide) rfl (fun ls hl => ?_)
  refine lv_aload_n hx hb d_L_law_367 rfl (lv_at hl 3 rfl) ?_
  have hPc : va_P (dC, dI) vwCl (mW qM cB2 cI cL cZ y) H := (hP.perm List.perm_append_comm).left
  have hDc : va_D (fun q : Nat => s.heap.size ≤ q) (mW qM cB2 cI cL cZ y) := (hD.perm List.perm_append_comm).left
  have hKc : va_K (dC, dI) vwCl (mT cB2 cI cL cZ) s := hK.sub [4, 5, 6, 7] rfl
  have hFc : ∀ q : Nat, va_A (mW qM cB2 cI cL cZ y) H.size q → (fun q : Nat => s.heap.size ≤ q) q := fr_free hD hS hA List.perm_append_comm
  have hS0 := hS
  refine va_calli (va_runV (As := []) (rest := []) ⟨hx, hb, hml, hown, hw0⟩ (u_steps l dC dI H.size qM cB2 cI cL cZ y σ hsg hm) (cwV 0 hw0 (gd_V 636 637 638 161 721 rfl rfl rfl rfl rfl) rfl rfl rfl (by decide +kernel) ⟨by decide +kernel, by decide +kernel⟩) (prV_E hPc hKc hDc hN (va_recv hKc hPc (ci := 7) (q0 := 0) rfl rfl)) rfl rfl hl.1 rfl (lv_room (Nat.le_of_ble_eq_true rfl)) d_L_law_368 ⟨hcc, hss⟩) hS (fun q _ h => hFc q h) hFc (fun r2 u t H1 locs ht hvm hw2 hB hz1 hk1 hS => ?_)
  obtain ⟨y2, ⟨hm2, hth⟩, hP1, hK1, hD1⟩ := hB
  rw [ht] at hP1
  obtain ⟨hP, hD⟩ := fr_wld (W2 := ((([(qo, .inl (cO, 1, .inr (.inl (fo2))))] : va_W) ++ kW qK cB cD cR x2 ds2) ++ mW qM cB2 cI cL cZ y2)) (A := (fun q : Nat => s.heap.size ≤ q)) (fun q hq => hA q (Nat.le_trans hS0.1 hq)) hP hD List.perm_append_comm hk1 hP1 hD1 (kz List.perm_append_comm)
  clear hPc hDc hKc hFc hP1 hD1 hK1 hk1 hS0
  generalize H1 = H at hP hS ⊢
  refine W.widen (k := c0 + 2) (n := s0 + 264) (Nat.le_refl _) (Nat.le_refl _) ?_
  refine lv_istore (lv' := [(6, .int r2), (5, .int r), (4, .int (nI i)), (3, .ref qo), (2, .ref qM), (1, .ref qK), (0, .ref b)]) hx hb d_L_law_371 hl (by decide) rfl (fun ls hl => ?_)
  refine lv_goto (tgt := 814) hx hb d_L_law_373 (by decide) ?_
  rw [st_steps] at hk2 hm2
  exact kk _ x2 ds2 y2 fo2 _ _ ls hsg hk2 hm2 hP hD hS (lv_sub hl [2, 3, 4, 5, 6] rfl)
set_option maxHeartbeats 4000000 in
set_option maxRecDepth 100000 in
theorem lw_c_7 {p : Program} {e : Env} {s : State} {m : MethodId} {below : List Frame} {meth : Method} {c : Code} (l : Launch) (hl9 : l.stackTraces = false) {b L : Nat} {xs : Nat → Int32} (hL : L ≤ 3072) (C0 : lw_At p s m meth c b L xs) {dC : Nat → ClassId} {dI : Nat → Nat → Nat} (qK qM qo : Nat) (cB cD cR cO cB2 cI cL cZ : ClassId) (fo : Nat → Int64) (x : KX) (ds : Nat → Option Dc) (y : MY) (σ : Sg) (i c0 s0 : Nat) (hi : i + 6 ≤ L) (hcc : c0 + 2 ≤ 601024) (hss : s0 + 264 ≤ 7293033) (hsg : sOk σ) (hk : kOk σ x ds) (hm : mOk σ y) (hN : nw_ok s) (hTw : tw_ok s) (hnc : nc_ok s) (hK : va_K (dC, dI) vwCl [(cO, .long), (cB, .byte), (cD, .object R_D), (cR, .object R_V), (cB2, .byte), (cI, .int), (cL, .short), (cZ, .boolean)] s) (H : Heap) (locs : List Loc) (hP : va_P (dC, dI) vwCl ((([(qo, .inl (cO, 1, .inr (.inl (fo))))] : va_W) ++ kW qK cB cD cR x ds) ++ mW qM cB2 cI cL cZ y) H) (hD : va_D (fun q : Nat => s.heap.size ≤ q) ((([(qo, .inl (cO, 1, .inr (.inl (fo))))] : va_W) ++ kW qK cB cD cR x ds) ++ mW qM cB2 cI cL cZ y)) (hS : va_S (fun q : Nat => s.heap.size ≤ q) s.heap H locs) (ls : Array Slot) (hl : lv_has ls 7 [(4, .int (nI i)), (3, .ref qo), (2, .ref qM), (1, .ref qK), (0, .ref b)]) (kk : ∀ (σ : Sg) (x : KX) (ds : Nat → Option Dc) (y : MY) (fo : Nat → Int64) (H : Heap) (locs : List Loc) (ls : Array Slot), sOk σ → kOk σ x ds → mOk σ y → va_P (dC, dI) vwCl ((([(qo, .inl (cO, 1, .inr (.inl (fo))))] : va_W) ++ kW qK cB cD cR x ds) ++ mW qM cB2 cI cL cZ y) H → va_D (fun q : Nat => s.heap.size ≤ q) ((([(qo, .inl (cO, 1, .inr (.inl (fo))))] : va_W) ++ kW qK cB cD cR x ds) ++ mW qM cB2 cI cL cZ y) → va_S (fun q : Nat => s.heap.size ≤ q) s.heap H locs → lv_has ls 7 [(4, .int (nI i)), (3, .ref qo), (2, .ref qM), (1, .ref qK), (0, .ref b)] → W p l e room_1 s m #[Value.ref b] below meth c H locs (c0 + 2) (s0 + 264) (lw_Z below #[Value.ref b] s) (F0 m 814 ls [])) : W p l e room_1 s m #[Value.ref b] below meth c H locs c0 s0 (lw_Z below #[Value.ref b] s) (F0 m 376 ls []) := by
  obtain ⟨hx, hb, hr, hml, hown, hts, hX, hbl, hlocks, hgv⟩ := id C0
  have hw0 : ∀ w ∈ w0, w.before #[Value.ref b] s = true := fun w h => hts w (w0_ok w h).1
  have hA : ∀ q : Nat, s.heap.size ≤ q → (fun q : Nat => s.heap.size ≤ q) q := fun _ h => h
  have hbA : ¬ (fun q : Nat => s.heap.size ≤ q) b := Nat.not_le.mpr hbl
  refine lv_aload_n hx hb d_L_law_376 rfl (lv_at hl 3 rfl) ?_
  refine lv_aload_n hx hb d_L_law_377 rfl (lv_at hl 4 rfl) ?_
  refine lv_iload hx hb d_L_law_378 (lv_at hl 0 rfl) ?_
  refine lv_iconst (v := 1) hx hb d_L_law_380 (by decide) ?_
  refine lv_iadd hx hb d_L_law_381 ?_
  refine lv_topi (fun x_1 ex_1 => ?_)
  obtain rfl : x_1 = nI (i + 1) := ex_1.trans (nI_add i 1)
  refine va_sld hx hb hX hbl hbA hS (x_inK (Nat.le_refl L) (by omega) (nI_pos (by omega)) (nI_ge (by omega) (by omega))) d_L_law_382 ?_
  refine lv_aload_n hx hb d_L_law_383 rfl (lv_at hl 4 rfl) ?_
  refine lv_iload hx hb d_L_law_384 (lv_at hl 0 rfl) ?_
  refine lv_iconst (v := 2) hx hb d_L_law_386 (by decide) ?_
  refine lv_iadd hx hb d_L_law_387 ?_
  refine lv_topi (fun x_2 ex_2 => ?_)
  obtain rfl : x_2 = nI (i + 2) := ex_2.trans (nI_add i 2)
  refine va_sld hx hb hX hbl hbA hS (x_inK (Nat.le_refl L) (by omega) (nI_pos (by omega)) (nI_ge (by omega) (by omega))) d_L_law_388 ?_
  refine lv_aload_n hx hb d_L_law_389 rfl (lv_at hl 1 rfl) ?_
  have hPc : va_P (dC, dI) vwCl (([(qo, .inl (cO, 1, .inr (.inl (fo))))] : va_W) ++ kW qK cB cD cR x ds) H := hP.left
  have hDc : va_D (fun q : Nat => s.heap.size ≤ q) (([(qo, .inl (cO, 1, .inr (.inl (fo))))] : va_W) ++ kW qK cB cD cR x ds) := hD.left
  have hKc : va_K (dC, dI) vwCl [(cO, .long), (cB, .byte), (cD, .object R_D), (cR, .object R_V)] s := hK.sub [0, 1, 2, 3] rfl
  have hFc : ∀ q : Nat, va_A (([(qo, .inl (cO, 1, .inr (.inl (fo))))] : va_W) ++ kW qK cB cD cR x ds) H.size q → (fun q : Nat => s.heap.size ≤ q) q := fr_free hD hS hA (List.Perm.refl _)
  have hS0 := hS
  refine va_calli (va_runSW (As := [.ref qK, .int (xs (Int32.toNatClampNeg (nI (i + 1)))), .int (xs (Int32.toNatClampNeg (nI (i + 2)))), .ref qo]) (rest := []) ⟨hx, hb, hml, hown, hw0⟩ (w_trim l hl9 dC dI H.size qK qo cB cD cR cO fo x ds σ (xs (Int32.toNatClampNeg (nI (i + 1)))) (xs (Int32.toNatClampNeg (nI (i + 2)))) hsg hk) (csw_of 4 hw0 692 557 558 507 rfl rfl rfl rfl rfl rfl (by decide +kernel) ⟨by decide +kernel, by decide +kernel⟩) (prS_T hPc hKc hDc hN hTw (fun a ha => hS.2.1 a ha (Nat.not_le.mpr ha))) rfl rfl hl.1 rfl (lv_room (Nat.le_of_ble_eq_true rfl)) d_L_law_390 ⟨hcc, hss⟩) hS (fun q _ h => hFc q h) hFc (fun r u t H1 locs ht hvm hw hB hz1 hk1 hS => ?_)
  obtain ⟨fo2, x2, ds2, ⟨hk2, hout⟩, hP1, hK1, hD1⟩ := hB
  rw [ht] at hP1
  obtain ⟨hP, hD⟩ := fr_wld (W2 := ((([(qo, .inl (cO, 1, .inr (.inl (fo2))))] : va_W) ++ kW qK cB cD cR x2 ds2) ++ mW qM cB2 cI cL cZ y)) (A := (fun q : Nat => s.heap.size ≤ q)) (fun q hq => hA q (Nat.le_trans hS0.1 hq)) hP hD (List.Perm.refl _) hk1 hP1 hD1 (kz (List.Perm.refl _))
  clear hPc hDc hKc hFc hP1 hD1 hK1 hk1 hS0
  generalize H1 = H at hP hS ⊢
  refine lv_istore (lv' := [(5, .int r), (4, .int (nI i)), (3, .ref qo), (2, .ref qM), (1, .ref qK), (0, .ref b)]) hx hb d_L_law_393 hl (by decide) rfl (fun ls hl => ?_)
  refine lv_aload_n hx hb d_L_law_395 rfl (lv_at hl 3 rfl) ?_
  refine lv_aload_n hx hb d_L_law_396 rfl (lv_at hl 5 rfl) ?_
  refine lv_iload hx hb d_L_law_397 (lv_at hl 1 rfl) ?_
  refine lv_iconst (v := 1) hx hb d_L_law_399 (by decide) ?_
  refine lv_iadd hx hb d_L_law_400 ?_
  refine lv_topi (fun x_3 ex_3 => ?_)
  obtain rfl : x_3 = nI (i + 1) := ex_3.trans (nI_add i 1)
  refine va_sld hx hb hX hbl hbA hS (x_inK (Nat.le_refl L) (by omega) (nI_pos (by omega)) (nI_ge (by omega) (by omega))) d_L_law_401 ?_
  refine lv_aload_n hx hb d_L_law_402 rfl (lv_at hl 5 rfl) ?_
  refine lv_iload hx hb d_L_law_403 (lv_at hl 1 rfl) ?_
  refine lv_iconst (v := 2) hx hb d_L_law_405 (by decide) ?_
  refine lv_iadd hx hb d_L_law_406 ?_
  refine lv_topi (fun x_4 ex_4 => ?_)
  obtain rfl : x_4 = nI (i + 2) := ex_4.trans (nI_add i 2)
  refine va_sld hx hb hX hbl hbA hS (x_inK (Nat.le_refl L) (by omega) (nI_pos (by omega)) (nI_ge (by omega) (by omega))) d_L_law_407 ?_
  have hPc : va_P (dC, dI) vwCl (mW qM cB2 cI cL cZ y) H := (hP.perm List.perm_append_comm).left
  have hDc : va_D (fun q : Nat => s.heap.size ≤ q) (mW qM cB2 cI cL cZ y) := (hD.perm List.perm_append_comm).left
  have hKc : va_K (dC, dI) vwCl (mT cB2 cI cL cZ) s := hK.sub [4, 5, 6, 7] rfl
  have hFc : ∀ q : Nat, va_A (mW qM cB2 cI cL cZ y) H.size q → (fun q : Nat => s.heap.size ≤ q) q := fr_free hD hS hA List.perm_append_comm
  have hS0 := hS
  refine va_calli (va_runV (As := [.int (xs (Int32.toNatClampNeg (nI (i + 1)))), .int (xs (Int32.toNatClampNeg (nI (i + 2))))]) (rest := []) ⟨hx, hb, hml, hown, hw0⟩ (u_trim l dC dI H.size qM cB2 cI cL cZ y σ (xs (Int32.toNatClampNeg (nI (i + 1)))) (xs (Int32.toNatClampNeg (nI (i + 2)))) hsg hm) (cwV 2 hw0 (gd_V 639 640 641 161 722 rfl rfl rfl rfl rfl) rfl rfl rfl (by decide +kernel) ⟨by decide +kernel, by decide +kernel⟩) (prV_E hPc hKc hDc hN (va_recv hKc hPc (ci := 7) (q0 := 0) rfl rfl)) rfl rfl hl.1 rfl (lv_room (Nat.le_of_ble_eq_true rfl)) d_L_law_408 ⟨hcc, hss⟩) hS (fun q _ h => hFc q h) hFc (fun r2 u t H1 locs ht hvm hw2 hB hz1 hk1 hS => ?_)
  obtain ⟨y2, ⟨hm2, hth⟩, hP1, hK1, hD1⟩ := hB
  rw [ht] at hP1
  obtain ⟨hP, hD⟩ := fr_wld (W2 := ((([(qo, .inl (cO, 1, .inr (.inl (fo2))))] : va_W) ++ kW qK cB cD cR x2 ds2) ++ mW qM cB2 cI cL cZ y2)) (A := (fun q : Nat => s.heap.size ≤ q)) (fun q hq => hA q (Nat.le_trans hS0.1 hq)) hP hD List.perm_append_comm hk1 hP1 hD1 (kz List.perm_append_comm)
  clear hPc hDc hKc hFc hP1 hD1 hK1 hk1 hS0
  generalize H1 = H at hP hS ⊢
  refine W.widen (k := c0 + 2) (n := s0 + 264) (Nat.le_refl _) (Nat.le_refl _) ?_
  refine lv_istore (lv' := [(6, .int r2), (5, .int r), (4, .int (nI i)), (3, .ref qo), (2, .ref qM), (1, .ref qK), (0, .ref b)]) hx hb d_L_law_411 hl (by decide) rfl (fun ls hl => ?_)
  refine lv_goto (tgt := 814) hx hb d_L_law_413 (by decide) ?_
  exact kk _ x2 ds2 y2 fo2 _ _ ls (sOk_of (sW_trim (sW_of hsg) (fun i d h => (hsg.ds i d h).2.2.1)) hk2) hk2 hm2 hP hD hS (lv_sub hl [2, 3, 4, 5, 6] rfl)
