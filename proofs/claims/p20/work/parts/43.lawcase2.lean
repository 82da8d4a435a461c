set_option maxHeartbeats 4000000 in
set_option maxRecDepth 100000 in
theorem lw_c_8 {p : Program} {e : Env} {s : State} {m : MethodId} {below : List Frame} {meth : Method} {c : Code} (l : Launch) (hl9 : l.stackTraces = false) {b L : Nat} {xs : Nat → Int32} (hL : L ≤ 3072) (C0 : lw_At p s m meth c b L xs) {dC : Nat → ClassId} {dI : Nat → Nat → Nat} (qK qM qo : Nat) (cB cD cR cO cB2 cI cL cZ : ClassId) (fo : Nat → Int64) (x : KX) (ds : Nat → Option Dc) (y : MY) (σ : Sg) (i c0 s0 : Nat) (hi : i + 6 ≤ L) (hcc : c0 + 2 ≤ 601024) (hss : s0 + 264 ≤ 7293033) (hsg : sOk σ) (hk : kOk σ x ds) (hm : mOk σ y) (hN : nw_ok s) (hTw : tw_ok s) (hnc : nc_ok s) (hK : va_K (dC, dI) vwCl [(cO, .long), (cB, .byte), (cD, .object R_D), (cR, .object R_V), (cB2, .byte), (cI, .int), (cL, .short), (cZ, .boolean)] s) (H : Heap) (locs : List Loc) (hP : va_P (dC, dI) vwCl ((([(qo, .inl (cO, 1, .inr (.inl (fo))))] : va_W) ++ kW qK cB cD cR x ds) ++ mW qM cB2 cI cL cZ y) H) (hD : va_D (fun q : Nat => s.heap.size ≤ q) ((([(qo, .inl (cO, 1, .inr (.inl (fo))))] : va_W) ++ kW qK cB cD cR x ds) ++ mW qM cB2 cI cL cZ y)) (hS : va_S (fun q : Nat => s.heap.size ≤ q) s.heap H locs) (ls : Array Slot) (hl : lv_has ls 7 [(4, .int (nI i)), (3, .ref qo), (2, .ref qM), (1, .ref qK), (0, .ref b)]) (kk : ∀ (σ : Sg) (x : KX) (ds : Nat → Option Dc) (y : MY) (fo : Nat → Int64) (H : Heap) (locs : List Loc) (ls : Array Slot), sOk σ → kOk σ x ds → mOk σ y → va_P (dC, dI) vwCl ((([(qo, .inl (cO, 1, .inr (.inl (fo))))] : va_W) ++ kW qK cB cD cR x ds) ++ mW qM cB2 cI cL cZ y) H → va_D (fun q : Nat => s.heap.size ≤ q) ((([(qo, .inl (cO, 1, .inr (.inl (fo))))] : va_W) ++ kW qK cB cD cR x ds) ++ mW qM cB2 cI cL cZ y) → va_S (fun q : Nat => s.heap.size ≤ q) s.heap H locs → lv_has ls 7 [(4, .int (nI i)), (3, .ref qo), (2, .ref qM), (1, .ref qK), (0, .ref b)] → W p l e room_1 s m #[Value.ref b] below meth c H locs (c0 + 2) (s0 + 264) (lw_Z below #[Value.ref b] s) (F0 m 814 ls [])) : W p l e room_1 s m #[Value.ref b] below meth c H locs c0 s0 (lw_Z below #[Value.ref b] s) (F0 m 416 ls []) := by
  obtain ⟨hx, hb, hr, hml, hown, hts, hX, hbl, hlocks, hgv⟩ := id C0
  have hw0 : ∀ w ∈ w0, w.before #[Value.ref b] s = true := fun w h => hts w (w0_ok w h).1
  have hA : ∀ q : Nat, s.heap.size ≤ q → (fun q : Nat => s.heap.size ≤ q) q := fun _ h => h
  have hbA : ¬ (fun q : Nat => s.heap.size ≤ q) b := Nat.not_le.mpr hbl
  refine lv_aload_n hx hb d_L_law_416 rfl (lv_at hl 3 rfl) ?_
  refine lv_aload_n hx hb d_L_law_417 rfl (lv_at hl 4 rfl) ?_
  refine lv_iload hx hb d_L_law_418 (lv_at hl 0 rfl) ?_
  refine lv_iconst (v := 1) hx hb d_L_law_420 (by decide) ?_
  refine lv_iadd hx hb d_L_law_421 ?_
  refine lv_topi (fun x_1 ex_1 => ?_)
  obtain rfl : x_1 = nI (i + 1) := ex_1.trans (nI_add i 1)
  refine va_sld hx hb hX hbl hbA hS (x_inK (Nat.le_refl L) (by omega) (nI_pos (by omega)) (nI_ge (by omega) (by omega))) d_L_law_422 ?_
  refine lv_aload_n hx hb d_L_law_423 rfl (lv_at hl 1 rfl) ?_
  have hPc : va_P (dC, dI) vwCl (([(qo, .inl (cO, 1, .inr (.inl (fo))))] : va_W) ++ kW qK cB cD cR x ds) H := hP.left
  have hDc : va_D (fun q : Nat => s.heap.size ≤ q) (([(qo, .inl (cO, 1, .inr (.inl (fo))))] : va_W) ++ kW qK cB cD cR x ds) := hD.left
  have hKc : va_K (dC, dI) vwCl [(cO, .long), (cB, .byte), (cD, .object R_D), (cR, .object R_V)] s := hK.sub [0, 1, 2, 3] rfl
  have hFc : ∀ q : Nat, va_A (([(qo, .inl (cO, 1, .inr (.inl (fo))))] : va_W) ++ kW qK cB cD cR x ds) H.size q → (fun q : Nat => s.heap.size ≤ q) q := fr_free hD hS hA (List.Perm.refl _)
  have hS0 := hS
  refine va_calli (va_runSW (As := [.ref qK, .int (xs (Int32.toNatClampNeg (nI (i + 1)))), .ref qo]) (rest := []) ⟨hx, hb, hml, hown, hw0⟩ (w_dropDocument l hl9 dC dI H.size qK qo cB cD cR cO fo x ds σ (xs (Int32.toNatClampNeg (nI (i + 1)))) hsg hk) (csw_of 3 hw0 694 562 563 507 rfl rfl rfl rfl rfl rfl (by decide +kernel) ⟨by decide +kernel, by decide +kernel⟩) (prS_T hPc hKc hDc hN hTw (fun a ha => hS.2.1 a ha (Nat.not_le.mpr ha))) rfl rfl hl.1 rfl (lv_room (Nat.le_of_ble_eq_true rfl)) d_L_law_424 ⟨hcc, hss⟩) hS (fun q _ h => hFc q h) hFc (fun r u t H1 locs ht hvm hw hB hz1 hk1 hS => ?_)
  obtain ⟨fo2, x2, ds2, ⟨hk2, hout⟩, hP1, hK1, hD1⟩ := hB
  rw [ht] at hP1
  obtain ⟨hP, hD⟩ := fr_wld (W2 := ((([(qo, .inl (cO, 1, .inr (.inl (fo2))))] : va_W) ++ kW qK cB cD cR x2 ds2) ++ mW qM cB2 cI cL cZ y)) (A := (fun q : Nat => s.heap.size ≤ q)) (fun q hq => hA q (Nat.le_trans hS0.1 hq)) hP hD (List.Perm.refl _) hk1 hP1 hD1 (kz (List.Perm.refl _))
  clear hPc hDc hKc hFc hP1 hD1 hK1 hk1 hS0
  generalize H1 = H at hP hS ⊢
  refine lv_istore (lv' := [(5, .int r), (4, .int (nI i)), (3, .ref qo), (2, .ref qM), (1, .ref qK), (0, .ref b)]) hx hb d_L_law_427 hl (by decide) rfl (fun ls hl => ?_)
  refine lv_aload_n hx hb d_L_law_429 rfl (lv_at hl 3 rfl) ?_
  refine lv_aload_n hx hb d_L_law_430 rfl (lv_at hl 5 rfl) ?_
  refine lv_iload hx hb d_L_law_431 (lv_at hl 1 rfl) ?_
  refine lv_iconst (v := 1) hx hb d_L_law_433 (by decide) ?_
  refine lv_iadd hx hb d_L_law_434 ?_
  refine lv_topi (fun x_2 ex_2 => ?_)
  obtain rfl : x_2 = nI (i + 1) := ex_2.trans (nI_add i 1)
  refine va_sld hx hb hX hbl hbA hS (x_inK (Nat.le_refl L) (by omega) (nI_pos (by omega)) (nI_ge (by omega) (by omega))) d_L_law_435 ?_
  have hPc : va_P (dC, dI) vwCl (mW qM cB2 cI cL cZ y) H := (hP.perm List.perm_append_comm).left
  have hDc : va_D (fun q : Nat => s.heap.size ≤ q) (mW qM cB2 cI cL cZ y) := (hD.perm List.perm_append_comm).left
  have hKc : va_K (dC, dI) vwCl (mT cB2 cI cL cZ) s := hK.sub [4, 5, 6, 7] rfl
  have hFc : ∀ q : Nat, va_A (mW qM cB2 cI cL cZ y) H.size q → (fun q : Nat => s.heap.size ≤ q) q := fr_free hD hS hA List.perm_append_comm
  have hS0 := hS
  refine va_calli (va_runV (As := [.int (xs (Int32.toNatClampNeg (nI (i + 1))))]) (rest := []) ⟨hx, hb, hml, hown, hw0⟩ (u_dropDocument l dC dI H.size qM cB2 cI cL cZ y σ (xs (Int32.toNatClampNeg (nI (i + 1)))) hsg hm) (cwV 1 hw0 (gd_V 642 643 644 161 723 rfl rfl rfl rfl rfl) rfl rfl rfl (by decide +kernel) ⟨by decide +kernel, by decide +kernel⟩) (prV_E hPc hKc hDc hN (va_recv hKc hPc (ci := 7) (q0 := 0) rfl rfl)) rfl rfl hl.1 rfl (lv_room (Nat.le_of_ble_eq_true rfl)) d_L_law_436 ⟨hcc, hss⟩) hS (fun q _ h => hFc q h) hFc (fun r2 u t H1 locs ht hvm hw2 hB hz1 hk1 hS => ?_)
  obtain ⟨y2, ⟨hm2, hth⟩, hP1, hK1, hD1⟩ := hB
  rw [ht] at hP1
  obtain ⟨hP, hD⟩ := fr_wld (W2 := ((([(qo, .inl (cO, 1, .inr (.inl (fo2))))] : va_W) ++ kW qK cB cD cR x2 ds2) ++ mW qM cB2 cI cL cZ y2)) (A := (fun q : Nat => s.heap.size ≤ q)) (fun q hq => hA q (Nat.le_trans hS0.1 hq)) hP hD List.perm_append_comm hk1 hP1 hD1 (kz List.perm_append_comm)
  clear hPc hDc hKc hFc hP1 hD1 hK1 hk1 hS0
  generalize H1 = H at hP hS ⊢
  refine W.widen (k := c0 + 2) (n := s0 + 264) (Nat.le_refl _) (Nat.le_refl _) ?_
  refine lv_istore (lv' := [(6, .int r2), (5, .int r), (4, .int (nI i)), (3, .ref qo), (2, .ref qM), (1, .ref qK), (0, .ref b)]) hx hb d_L_law_439 hl (by decide) rfl (fun ls hl => ?_)
  refine lv_goto (tgt := 814) hx hb d_L_law_441 (by decide) ?_
  exact kk _ x2 ds2 y2 fo2 _ _ ls (sOk_of (sW_drop (sW_of hsg)) hk2) hk2 hm2 hP hD hS (lv_sub hl [2, 3, 4, 5, 6] rfl)
set_option maxHeartbeats 4000000 in
set_option maxRecDepth 100000 in
theorem lw_c_9 {p : Program} {e : Env} {s : State} {m : MethodId} {below : List Frame} {meth : Method} {c : Code} (l : Launch) (hl9 : l.stackTraces = false) {b L : Nat} {xs : Nat → Int32} (hL : L ≤ 3072) (C0 : lw_At p s m meth c b L xs) {dC : Nat → ClassId} {dI : Nat → Nat → Nat} (qK qM qo : Nat) (cB cD cR cO cB2 cI cL cZ : ClassId) (fo : Nat → Int64) (x : KX) (ds : Nat → Option Dc) (y : MY) (σ : Sg) (i c0 s0 : Nat) (hi : i + 6 ≤ L) (hcc : c0 + 2 ≤ 601024) (hss : s0 + 264 ≤ 7293033) (hsg : sOk σ) (hk : kOk σ x ds) (hm : mOk σ y) (hN : nw_ok s) (hTw : tw_ok s) (hnc : nc_ok s) (hK : va_K (dC, dI) vwCl [(cO, .long), (cB, .byte), (cD, .object R_D), (cR, .object R_V), (cB2, .byte), (cI, .int), (cL, .short), (cZ, .boolean)] s) (H : Heap) (locs : List Loc) (hP : va_P (dC, dI) vwCl ((([(qo, .inl (cO, 1, .inr (.inl (fo))))] : va_W) ++ kW qK cB cD cR x ds) ++ mW qM cB2 cI cL cZ y) H) (hD : va_D (fun q : Nat => s.heap.size ≤ q) ((([(qo, .inl (cO, 1, .inr (.inl (fo))))] : va_W) ++ kW qK cB cD cR x ds) ++ mW qM cB2 cI cL cZ y)) (hS : va_S (fun q : Nat => s.heap.size ≤ q) s.heap H locs) (ls : Array Slot) (hl : lv_has ls 7 [(4, .int (nI i)), (3, .ref qo), (2, .ref qM), (1, .ref qK), (0, .ref b)]) (kk : ∀ (σ : Sg) (x : KX) (ds : Nat → Option Dc) (y : MY) (fo : Nat → Int64) (H : Heap) (locs : List Loc) (ls : Array Slot), sOk σ → kOk σ x ds → mOk σ y → va_P (dC, dI) vwCl ((([(qo, .inl (cO, 1, .inr (.inl (fo))))] : va_W) ++ kW qK cB cD cR x ds) ++ mW qM cB2 cI cL cZ y) H → va_D (fun q : Nat => s.heap.size ≤ q) ((([(qo, .inl (cO, 1, .inr (.inl (fo))))] : va_W) ++ kW qK cB cD cR x ds) ++ mW qM cB2 cI cL cZ y) → va_S (fun q : Nat => s.heap.size ≤ q) s.heap H locs → lv_has ls 7 [(4, .int (nI i)), (3, .ref qo), (2, .ref qM), (1, .ref qK), (0, .ref b)] → W p l e room_1 s m #[Value.ref b] below meth c H locs (c0 + 2) (s0 + 264) (lw_Z below #[Value.ref b] s) (F0 m 814 ls [])) : W p l e room_1 s m #[Value.ref b] below meth c H locs c0 s0 (lw_Z below #[Value.ref b] s) (F0 m 444 ls []) := by
  obtain ⟨hx, hb, hr, hml, hown, hts, hX, hbl, hlocks, hgv⟩ := id C0
  have hw0 : ∀ w ∈ w0, w.before #[Value.ref b] s = true := fun w h => hts w (w0_ok w h).1
  have hA : ∀ q : Nat, s.heap.size ≤ q → (fun q : Nat => s.heap.size ≤ q) q := fun _ h => h
  have hbA : ¬ (fun q : Nat => s.heap.size ≤ q) b := Nat.not_le.mpr hbl
  refine lv_aload_n hx hb d_L_law_444 rfl (lv_at hl 3 rfl) ?_
  refine lv_aload_n hx hb d_L_law_445 rfl (lv_at hl 4 rfl) ?_
  refine lv_iload hx hb d_L_law_446 (lv_at hl 0 rfl) ?_
  refine lv_iconst (v := 1) hx hb d_L_law_448 (by decide) ?_
  refine lv_iadd hx hb d_L_law_449 ?_
  refine lv_topi (fun x_1 ex_1 => ?_)
  obtain rfl : x_1 = nI (i + 1) := ex_1.trans (nI_add i 1)
  refine va_sld hx hb hX hbl hbA hS (x_inK (Nat.le_refl L) (by omega) (nI_pos (by omega)) (nI_ge (by omega) (by omega))) d_L_law_450 ?_
  refine lv_aload_n hx hb d_L_law_451 rfl (lv_at hl 4 rfl) ?_
  refine lv_iload hx hb d_L_law_452 (lv_at hl 0 rfl) ?_
  refine lv_iconst (v := 2) hx hb d_L_law_454 (by decide) ?_
  refine lv_iadd hx hb d_L_law_455 ?_
  refine lv_topi (fun x_2 ex_2 => ?_)
  obtain rfl : x_2 = nI (i + 2) := ex_2.trans (nI_add i 2)
  refine va_sld hx hb hX hbl hbA hS (x_inK (Nat.le_refl L) (by omega) (nI_pos (by omega)) (nI_ge (by omega) (by omega))) d_L_law_456 ?_
  refine lv_aload_n hx hb d_L_law_457 rfl (lv_at hl 1 rfl) ?_
  have hPc : va_P (dC, dI) vwCl (([(qo, .inl (cO, 1, .inr (.inl (fo))))] : va_W) ++ kW qK cB cD cR x ds) H := hP.left
  have hDc : va_D (fun q : Nat => s.heap.size ≤ q) (([(qo, .inl (cO, 1, .inr (.inl (fo))))] : va_W) ++ kW qK cB cD cR x ds) := hD.left
  have hKc : va_K (dC, dI) vwCl [(cO, .long), (cB, .byte), (cD, .object R_D), (cR, .object R_V)] s := hK.sub [0, 1, 2, 3] rfl
  have hFc : ∀ q : Nat, va_A (([(qo, .inl (cO, 1, .inr (.inl (fo))))] : va_W) ++ kW qK cB cD cR x ds) H.size q → (fun q : Nat => s.heap.size ≤ q) q := fr_free hD hS hA (List.Perm.refl _)
  have hS0 := hS
  refine va_calli (va_runSW (As := [.ref qK, .int (xs (Int32.toNatClampNeg (nI (i + 1)))), .int (xs (Int32.toNatClampNeg (nI (i + 2)))), .ref qo]) (rest := []) ⟨hx, hb, hml, hown, hw0⟩ (w_about l hl9 dC dI H.size qK qo cB cD cR cO fo x ds σ (xs (Int32.toNatClampNeg (nI (i + 1)))) (xs (Int32.toNatClampNeg (nI (i + 2)))) hsg hk) (csw_of 4 hw0 696 567 568 507 rfl rfl rfl rfl rfl rfl (by decide +kernel) ⟨by decide +kernel, by decide +kernel⟩) (prS_TN hPc hKc hDc hN hTw hnc (fun a ha => hS.2.1 a ha (Nat.not_le.mpr ha))) rfl rfl hl.1 rfl (lv_room (Nat.le_of_ble_eq_true rfl)) d_L_law_458 ⟨hcc, hss⟩) hS (fun q _ h => hFc q h) hFc (fun r u t H1 locs ht hvm hw hB hz1 hk1 hS => ?_)
  obtain ⟨fo2, x2, ds2, ⟨hk2, hout⟩, hP1, hK1, hD1⟩ := hB
  rw [ht] at hP1
  obtain ⟨hP, hD⟩ := fr_wld (W2 := ((([(qo, .inl (cO, 1, .inr (.inl (fo2))))] : va_W) ++ kW qK cB cD cR x2 ds2) ++ mW qM cB2 cI cL cZ y)) (A := (fun q : Nat => s.heap.size ≤ q)) (fun q hq => hA q (Nat.le_trans hS0.1 hq)) hP hD (List.Perm.refl _) hk1 hP1 hD1 (kz (List.Perm.refl _))
  clear hPc hDc hKc hFc hP1 hD1 hK1 hk1 hS0
  generalize H1 = H at hP hS ⊢
  refine lv_istore (lv' := [(5, .int r), (4, .int (nI i)), (3, .ref qo), (2, .ref qM), (1, .ref qK), (0, .ref b)]) hx hb d_L_law_461 hl (by decide) rfl (fun ls hl => ?_)
  refine lv_aload_n hx hb d_L_law_463 rfl (lv_at hl 3 rfl) ?_
  refine lv_aload_n hx hb d_L_law_464 rfl (lv_at hl 5 rfl) ?_
  refine lv_iload hx hb d_L_law_465 (lv_at hl 1 rfl) ?_
  refine lv_iconst (v := 1) hx hb d_L_law_467 (by decide) ?_
  refine lv_iadd hx hb d_L_law_468 ?_
  refine lv_topi (fun x_3 ex_3 => ?_)
  obtain rfl : x_3 = nI (i + 1) := ex_3.trans (nI_add i 1)
  refine va_sld hx hb hX hbl hbA hS (x_inK (Nat.le_refl L) (by omega) (nI_pos (by omega)) (nI_ge (by omega) (by omega))) d_L_law_469 ?_
  refine lv_aload_n hx hb d_L_law_470 rfl (lv_at hl 5 rfl) ?_
  refine lv_iload hx hb d_L_law_471 (lv_at hl 1 rfl) ?_
  refine lv_iconst (v := 2) hx hb d_L_law_473 (by decide) ?_
  refine lv_iadd hx hb d_L_law_474 ?_
  refine lv_topi (fun x_4 ex_4 => ?_)
  obtain rfl : x_4 = nI (i + 2) := ex_4.trans (nI_add i 2)
  refine va_sld hx hb hX hbl hbA hS (x_inK (Nat.le_refl L) (by omega) (nI_pos (by omega)) (nI_ge (by omega) (by omega))) d_L_law_475 ?_
  have hPc : va_P (dC, dI) vwCl (mW qM cB2 cI cL cZ y) H := (hP.perm List.perm_append_comm).left
  have hDc : va_D (fun q : Nat => s.heap.size ≤ q) (mW qM cB2 cI cL cZ y) := (hD.perm List.perm_append_comm).left
  have hKc : va_K (dC, dI) vwCl (mT cB2 cI cL cZ) s := hK.sub [4, 5, 6, 7] rfl
  have hFc : ∀ q : Nat, va_A (mW qM cB2 cI cL cZ y) H.size q → (fun q : Nat => s.heap.size ≤ q) q := fr_free hD hS hA List.perm_append_comm
  have hS0 := hS
  refine va_calli (va_runV (As := [.int (xs (Int32.toNatClampNeg (nI (i + 1)))), .int (xs (Int32.toNatClampNeg (nI (i + 2))))]) (rest := []) ⟨hx, hb, hml, hown, hw0⟩ (u_about l dC dI H.size qM cB2 cI cL cZ y σ (xs (Int32.toNatClampNeg (nI (i + 1)))) (xs (Int32.toNatClampNeg (nI (i + 2)))) hsg hm) (cwV 2 hw0 (gd_V 645 646 647 161 724 rfl rfl rfl rfl rfl) rfl rfl rfl (by decide +kernel) ⟨by decide +kernel, by decide +kernel⟩) (prV_E hPc hKc hDc hN (va_recv hKc hPc (ci := 7) (q0 := 0) rfl rfl)) rfl rfl hl.1 rfl (lv_room (Nat.le_of_ble_eq_true rfl)) d_L_law_476 ⟨hcc, hss⟩) hS (fun q _ h => hFc q h) hFc (fun r2 u t H1 locs ht hvm hw2 hB hz1 hk1 hS => ?_)
  obtain ⟨y2, ⟨hm2, hth⟩, hP1, hK1, hD1⟩ := hB
  rw [ht] at hP1
  obtain ⟨hP, hD⟩ := fr_wld (W2 := ((([(qo, .inl (cO, 1, .inr (.inl (fo2))))] : va_W) ++ kW qK cB cD cR x2 ds2) ++ mW qM cB2 cI cL cZ y2)) (A := (fun q : Nat => s.heap.size ≤ q)) (fun q hq => hA q (Nat.le_trans hS0.1 hq)) hP hD List.perm_append_comm hk1 hP1 hD1 (kz List.perm_append_comm)
  clear hPc hDc hKc hFc hP1 hD1 hK1 hk1 hS0
  generalize H1 = H at hP hS ⊢
  refine W.widen (k := c0 + 2) (n := s0 + 264) (Nat.le_refl _) (Nat.le_refl _) ?_
  refine lv_istore (lv' := [(6, .int r2), (5, .int r), (4, .int (nI i)), (3, .ref qo), (2, .ref qM), (1, .ref qK), (0, .ref b)]) hx hb d_L_law_479 hl (by decide) rfl (fun ls hl => ?_)
  refine lv_goto (tgt := 814) hx hb d_L_law_481 (by decide) ?_
  rw [st_about] at hk2 hm2
  exact kk _ x2 ds2 y2 fo2 _ _ ls hsg hk2 hm2 hP hD hS (lv_sub hl [2, 3, 4, 5, 6] rfl)
set_option maxHeartbeats 4000000 in
set_option maxRecDepth 100000 in
theorem lw_c_10 {p : Program} {e : Env} {s : State} {m : MethodId} {below : List Frame} {meth : Method} {c : Code} (l : Launch) (hl9 : l.stackTraces = false) {b L : Nat} {xs : Nat → Int32} (hL : L ≤ 3072) (C0 : lw_At p s m meth c b L xs) {dC : Nat → ClassId} {dI : Nat → Nat → Nat} (qK qM qo : Nat) (cB cD cR cO cB2 cI cL cZ : ClassId) (fo : Nat → Int64) (x : KX) (ds : Nat → Option Dc) (y : MY) (σ : Sg) (i c0 s0 : Nat) (hi : i + 6 ≤ L) (hcc : c0 + 2 ≤ 601024) (hss : s0 + 264 ≤ 7293033) (hsg : sOk σ) (hk : kOk σ x ds) (hm : mOk σ y) (hN : nw_ok s) (hTw : tw_ok s) (hnc : nc_ok s) (hK : va_K (dC, dI) vwCl [(cO, .long), (cB, .byte), (cD, .object R_D), (cR, .object R_V), (cB2, .byte), (cI, .int), (cL, .short), (cZ, .boolean)] s) (H : Heap) (locs : List Loc) (hP : va_P (dC, dI) vwCl ((([(qo, .inl (cO, 1, .inr (.inl (fo))))] : va_W) ++ kW qK cB cD cR x ds) ++ mW qM cB2 cI cL cZ y) H) (hD : va_D (fun q : Nat => s.heap.size ≤ q) ((([(qo, .inl (cO, 1, .inr (.inl (fo))))] : va_W) ++ kW qK cB cD cR x ds) ++ mW qM cB2 cI cL cZ y)) (hS : va_S (fun q : Nat => s.heap.size ≤ q) s.heap H locs) (ls : Array Slot) (hl : lv_has ls 7 [(4, .int (nI i)), (3, .ref qo), (2, .ref qM), (1, .ref qK), (0, .ref b)]) (kk : ∀ (σ : Sg) (x : KX) (ds : Nat → Option Dc) (y : MY) (fo : Nat → Int64) (H : Heap) (locs : List Loc) (ls : Array Slot), sOk σ → kOk σ x ds → mOk σ y → va_P (dC, dI) vwCl ((([(qo, .inl (cO, 1, .inr (.inl (fo))))] : va_W) ++ kW qK cB cD cR x ds) ++ mW qM cB2 cI cL cZ y) H → va_D (fun q : Nat => s.heap.size ≤ q) ((([(qo, .inl (cO, 1, .inr (.inl (fo))))] : va_W) ++ kW qK cB cD cR x ds) ++ mW qM cB2 cI cL cZ y) → va_S (fun q : Nat => s.heap.size ≤ q) s.heap H locs → lv_has ls 7 [(4, .int (nI i)), (3, .ref qo), (2, .ref qM), (1, .ref qK), (0, .ref b)] → W p l e room_1 s m #[Value.ref b] below meth c H locs (c0 + 2) (s0 + 264) (lw_Z below #[Value.ref b] s) (F0 m 814 ls [])) : W p l e room_1 s m #[Value.ref b] below meth c H locs c0 s0 (lw_Z below #[Value.ref b] s) (F0 m 484 ls []) := by
  obtain ⟨hx, hb, hr, hml, hown, hts, hX, hbl, hlocks, hgv⟩ := id C0
  have hw0 : ∀ w ∈ w0, w.before #[Value.ref b] s = true := fun w h => hts w (w0_ok w h).1
  have hA : ∀ q : Nat, s.heap.size ≤ q → (fun q : Nat => s.heap.size ≤ q) q := fun _ h => h
  have hbA : ¬ (fun q : Nat => s.heap.size ≤ q) b := Nat.not_le.mpr hbl
  refine lv_aload_n hx hb d_L_law_484 rfl (lv_at hl 3 rfl) ?_
  refine lv_aload_n hx hb d_L_law_485 rfl (lv_at hl 4 rfl) ?_
  refine lv_iload hx hb d_L_law_486 (lv_at hl 0 rfl) ?_
  refine lv_iconst (v := 1) hx hb d_L_law_488 (by decide) ?_
  refine lv_iadd hx hb d_L_law_489 ?_
  refine lv_topi (fun x_1 ex_1 => ?_)
  obtain rfl : x_1 = nI (i + 1) := ex_1.trans (nI_add i 1)
  refine va_sld hx hb hX hbl hbA hS (x_inK (Nat.le_refl L) (by omega) (nI_pos (by omega)) (nI_ge (by omega) (by omega))) d_L_law_490 ?_
  refine lv_aload_n hx hb d_L_law_491 rfl (lv_at hl 4 rfl) ?_
  refine lv_iload hx hb d_L_law_492 (lv_at hl 0 rfl) ?_
  refine lv_iconst (v := 2) hx hb d_L_law_494 (by decide) ?_
  refine lv_iadd hx hb d_L_law_495 ?_
  refine lv_topi (fun x_2 ex_2 => ?_)
  obtain rfl : x_2 = nI (i + 2) := ex_2.trans (nI_add i 2)
  refine va_sld hx hb hX hbl hbA hS (x_inK (Nat.le_refl L) (by omega) (nI_pos (by omega)) (nI_ge (by omega) (by omega))) d_L_law_496 ?_
  refine lv_aload_n hx hb d_L_law_497 rfl (lv_at hl 4 rfl) ?_
  refine lv_iload hx hb d_L_law_498 (lv_at hl 0 rfl) ?_
  refine lv_iconst (v := 3) hx hb d_L_law_500 (by decide) ?_
  refine lv_iadd hx hb d_L_law_501 ?_
  refine lv_topi (fun x_3 ex_3 => ?_)
  obtain rfl : x_3 = nI (i + 3) := ex_3.trans (nI_add i 3)
  refine va_sld hx hb hX hbl hbA hS (x_inK (Nat.le_refl L) (by omega) (nI_pos (by omega)) (nI_ge (by omega) (by omega))) d_L_law_502 ?_
  refine lv_aload_n hx hb d_L_law_503 rfl (lv_at hl 1 rfl) ?_
  have hPc : va_P (dC, dI) vwCl (([(qo, .inl (cO, 1, .inr (.inl (fo))))] : va_W) ++ kW qK cB cD cR x ds) H := hP.left
  have hDc : va_D (fun q : Nat => s.heap.size ≤ q) (([(qo, .inl (cO, 1, .inr (.inl (fo))))] : va_W) ++ kW qK cB cD cR x ds) := hD.left
  have hKc : va_K (dC, dI) vwCl [(cO, .long), (cB, .byte), (cD, .object R_D), (cR, .object R_V)] s := hK.sub [0, 1, 2, 3] rfl
  have hFc : ∀ q : Nat, va_A (([(qo, .inl (cO, 1, .inr (.inl (fo))))] : va_W) ++ kW qK cB cD cR x ds) H.size q → (fun q : Nat => s.heap.size ≤ q) q := fr_free hD hS hA (List.Perm.refl _)
  have hS0 := hS
  refine va_calli (va_runSW (As := [.ref qK, .int (xs (Int32.toNatClampNeg (nI (i + 1)))), .int (xs (Int32.toNatClampNeg (nI (i + 2)))), .int (xs (Int32.toNatClampNeg (nI (i + 3)))), .ref qo]) (rest := []) ⟨hx, hb, hml, hown, hw0⟩ (w_revision l hl9 dC dI H.size qK qo cB cD cR cO fo x ds σ (xs (Int32.toNatClampNeg (nI (i + 1)))) (xs (Int32.toNatClampNeg (nI (i + 2)))) (xs (Int32.toNatClampNeg (nI (i + 3)))) hsg hk) (csw_of 5 hw0 698 572 573 507 rfl rfl rfl rfl rfl rfl (by decide +kernel) ⟨by decide +kernel, by decide +kernel⟩) (prS_TN hPc hKc hDc hN hTw hnc (fun a ha => hS.2.1 a ha (Nat.not_le.mpr ha))) rfl rfl hl.1 rfl (lv_room (Nat.le_of_ble_eq_true rfl)) d_L_law_504 ⟨hcc, hss⟩) hS (fun q _ h => hFc q h) hFc (fun r u t H1 locs ht hvm hw hB hz1 hk1 hS => ?_)
  obtain ⟨fo2, x2, ds2, ⟨hk2, hout⟩, hP1, hK1, hD1⟩ := hB
  rw [ht] at hP1
  obtain ⟨hP, hD⟩ := fr_wld (W2 := ((([(qo, .inl (cO, 1, .inr (.inl (fo2))))] : va_W) ++ kW qK cB cD cR x2 ds2) ++ mW qM cB2 cI cL cZ y)) (A := (fun q : Nat => s.heap.size ≤ q)) (fun q hq => hA q (Nat.le_trans hS0.1 hq)) hP hD (List.Perm.refl _) hk1 hP1 hD1 (kz (List.Perm.refl _))
  clear hPc hDc hKc hFc hP1 hD1 hK1 hk1 hS0
  generalize H1 = H at hP hS ⊢
  refine lv_istore (lv' := [(5, .int r), (4, .int (nI i)), (3, .ref qo), (2, .ref qM), (1, .ref qK), (0, .ref b)]) hx hb d_L_law_507 hl (by decide) rfl (fun ls hl => ?_)
  refine lv_aload_n hx hb d_L_law_509 rfl (lv_at hl 3 rfl) ?_
  refine lv_aload_n hx hb d_L_law_510 rfl (lv_at hl 5 rfl) ?_
  refine lv_iload hx hb d_L_law_511 (lv_at hl 1 rfl) ?_
  refine lv_iconst (v := 1) hx hb d_L_law_513 (by decide) ?_
  refine lv_iadd hx hb d_L_law_514 ?_
  refine lv_topi (fun x_4 ex_4 => ?_)
  obtain rfl : x_4 = nI (i + 1) := ex_4.trans (nI_add i 1)
  refine va_sld hx hb hX hbl hbA hS (x_inK (Nat.le_refl L) (by omega) (nI_pos (by omega)) (nI_ge (by omega) (by omega))) d_L_law_515 ?_
  refine lv_aload_n hx hb d_L_law_516 rfl (lv_at hl 5 rfl) ?_
  refine lv_iload hx hb d_L_law_517 (lv_at hl 1 rfl) ?_
  refine lv_iconst (v := 2) hx hb d_L_law_519 (by decide) ?_
  refine lv_iadd hx hb d_L_law_520 ?_
  refine lv_topi (fun x_5 ex_5 => ?_)
  obtain rfl : x_5 = nI (i + 2) := ex_5.trans (nI_add i 2)
  refine va_sld hx hb hX hbl hbA hS (x_inK (Nat.le_refl L) (by omega) (nI_pos (by omega)) (nI_ge (by omega) (by omega))) d_L_law_521 ?_
  refine lv_aload_n hx hb d_L_law_522 rfl (lv_at hl 5 rfl) ?_
  refine lv_iload hx hb d_L_law_523 (lv_at hl 1 rfl) ?_
  refine lv_iconst (v := 3) hx hb d_L_law_525 (by decide) ?_
  refine lv_iadd hx hb d_L_law_526 ?_
  refine lv_topi (fun x_6 ex_6 => ?_)
  obtain rfl : x_6 = nI (i + 3) := ex_6.trans (nI_add i 3)
  refine va_sld hx hb hX hbl hbA hS (x_inK (Nat.le_refl L) (by omega) (nI_pos (by omega)) (nI_ge (by omega) (by omega))) d_L_law_527 ?_
  have hPc : va_P (dC, dI) vwCl (mW qM cB2 cI cL cZ y) H := (hP.perm List.perm_append_comm).left
  have hDc : va_D (fun q : Nat => s.heap.size ≤ q) (mW qM cB2 cI cL cZ y) := (hD.perm List.perm_append_comm).left
  have hKc : va_K (dC, dI) vwCl (mT cB2 cI cL cZ) s := hK.sub [4, 5, 6, 7] rfl
  have hFc : ∀ q : Nat, va_A (mW qM cB2 cI cL cZ y) H.size q → (fun q : Nat => s.heap.size ≤ q) q := fr_free hD hS hA List.perm_append_comm
  have hS0 := hS
  refine va_calli (va_runV (As := [.int (xs (Int32.toNatClampNeg (nI (i + 1)))), .int (xs (Int32.toNatClampNeg (nI (i + 2)))), .int (xs (Int32.toNatClampNeg (nI (i + 3))))]) (rest := []) ⟨hx, hb, hml, hown, hw0⟩ (u_revision l dC dI H.size qM cB2 cI cL cZ y σ (xs (Int32.toNatClampNeg (nI (i + 1)))) (xs (Int32.toNatClampNeg (nI (i + 2)))) (xs (Int32.toNatClampNeg (nI (i + 3)))) hsg hm) (cwV 3 hw0 (gd_V 648 649 650 161 725 rfl rfl rfl rfl rfl) rfl rfl rfl (by decide +kernel) ⟨by decide +kernel, by decide +kernel⟩) (prV_E hPc hKc hDc hN (va_recv hKc hPc (ci := 7) (q0 := 0) rfl rfl)) rfl rfl hl.1 rfl (lv_room (Nat.le_of_ble_eq_true rfl)) d_L_law_528 ⟨hcc, hss⟩) hS (fun q _ h => hFc q h) hFc (fun r2 u t H1 locs ht hvm hw2 hB hz1 hk1 hS => ?_)
  obtain ⟨y2, hm2, hP1, hK1, hD1⟩ := hB
  rw [ht] at hP1
  obtain ⟨hP, hD⟩ := fr_wld (W2 := ((([(qo, .inl (cO, 1, .inr (.inl (fo2))))] : va_W) ++ kW qK cB cD cR x2 ds2) ++ mW qM cB2 cI cL cZ y2)) (A := (fun q : Nat => s.heap.size ≤ q)) (fun q hq => hA q (Nat.le_trans hS0.1 hq)) hP hD List.perm_append_comm hk1 hP1 hD1 (kz List.perm_append_comm)
  clear hPc hDc hKc hFc hP1 hD1 hK1 hk1 hS0
  generalize H1 = H at hP hS ⊢
  refine W.widen (k := c0 + 2) (n := s0 + 264) (Nat.le_refl _) (Nat.le_refl _) ?_
  refine lv_istore (lv' := [(6, .int r2), (5, .int r), (4, .int (nI i)), (3, .ref qo), (2, .ref qM), (1, .ref qK), (0, .ref b)]) hx hb d_L_law_531 hl (by decide) rfl (fun ls hl => ?_)
  refine lv_goto (tgt := 814) hx hb d_L_law_533 (by decide) ?_
  rw [st_rev] at hk2
  exact kk _ x2 ds2 y2 fo2 _ _ ls hsg hk2 hm2 hP hD hS (lv_sub hl [2, 3, 4, 5, 6] rfl)
set_option maxHeartbeats 4000000 in
set_option maxRecDepth 100000 in
theorem lw_c_11 {p : Program} {e : Env} {s : State} {m : MethodId} {below : List Frame} {meth : Method} {c : Code} (l : Launch) (hl9 : l.stackTraces = false) {b L : Nat} {xs : Nat → Int32} (hL : L ≤ 3072) (C0 : lw_At p s m meth c b L xs) {dC : Nat → ClassId} {dI : Nat → Nat → Nat} (qK qM qo : Nat) (cB cD cR cO cB2 cI cL cZ : ClassId) (fo : Nat → Int64) (x : KX) (ds : Nat → Option Dc) (y : MY) (σ : Sg) (i c0 s0 : Nat) (hi : i + 6 ≤ L) (hcc : c0 + 2 ≤ 601024) (hss : s0 + 264 ≤ 7293033) (hsg : sOk σ) (hk : kOk σ x ds) (hm : mOk σ y) (hN : nw_ok s) (hTw : tw_ok s) (hnc : nc_ok s) (hK : va_K (dC, dI) vwCl [(cO, .long), (cB, .byte), (cD, .object R_D), (cR, .object R_V), (cB2, .byte), (cI, .int), (cL, .short), (cZ, .boolean)] s) (H : Heap) (locs : List Loc) (hP : va_P (dC, dI) vwCl ((([(qo, .inl (cO, 1, .inr (.inl (fo))))] : va_W) ++ kW qK cB cD cR x ds) ++ mW qM cB2 cI cL cZ y) H) (hD : va_D (fun q : Nat => s.heap.size ≤ q) ((([(qo, .inl (cO, 1, .inr (.inl (fo))))] : va_W) ++ kW qK cB cD cR x ds) ++ mW qM cB2 cI cL cZ y)) (hS : va_S (fun q : Nat => s.heap.size ≤ q) s.heap H locs) (ls : Array Slot) (hl : lv_has ls 7 [(4, .int (nI i)), (3, .ref qo), (2, .ref qM), (1, .ref qK), (0, .ref b)]) (kk : ∀ (σ : Sg) (x : KX) (ds : Nat → Option Dc) (y : MY) (fo : Nat → Int64) (H : Heap) (locs : List Loc) (ls : Array Slot), sOk σ → kOk σ x ds → mOk σ y → va_P (dC, dI) vwCl ((([(qo, .inl (cO, 1, .inr (.inl (fo))))] : va_W) ++ kW qK cB cD cR x ds) ++ mW qM cB2 cI cL cZ y) H → va_D (fun q : Nat => s.heap.size ≤ q) ((([(qo, .inl (cO, 1, .inr (.inl (fo))))] : va_W) ++ kW qK cB cD cR x ds) ++ mW qM cB2 cI cL cZ y) → va_S (fun q : Nat => s.heap.size ≤ q) s.heap H locs → lv_has ls 7 [(4, .int (nI i)), (3, .ref qo), (2, .ref qM), (1, .ref qK), (0, .ref b)] → W p l e room_1 s m #[Value.ref b] below meth c H locs (c0 + 2) (s0 + 264) (lw_Z below #[Value.ref b] s) (F0 m 814 ls [])) : W p l e room_1 s m #[Value.ref b] below meth c H locs c0 s0 (lw_Z below #[Value.ref b] s) (F0 m 536 ls []) := by
  obtain ⟨hx, hb, hr, hml, hown, hts, hX, hbl, hlocks, hgv⟩ := id C0
  have hw0 : ∀ w ∈ w0, w.before #[Value.ref b] s = true := fun w h => hts w (w0_ok w h).1
  have hA : ∀ q : Nat, s.heap.size ≤ q → (fun q : Nat => s.heap.size ≤ q) q := fun _ h => h
  have hbA : ¬ (fun q : Nat => s.heap.size ≤ q) b := Nat.not_le.mpr hbl
  refine lv_aload_n hx hb d_L_law_536 rfl (lv_at hl 3 rfl) ?_
  refine lv_aload_n hx hb d_L_law_537 rfl (lv_at hl 4 rfl) ?_
  refine lv_iload hx hb d_L_law_538 (lv_at hl 0 rfl) ?_
  refine lv_iconst (v := 1) hx hb d_L_law_540 (by decide) ?_
  refine lv_iadd hx hb d_L_law_541 ?_
  refine lv_topi (fun x_1 ex_1 => ?_)
  obtain rfl : x_1 = nI (i + 1) := ex_1.trans (nI_add i 1)
  refine va_sld hx hb hX hbl hbA hS (x_inK (Nat.le_refl L) (by omega) (nI_pos (by omega)) (nI_ge (by omega) (by omega))) d_L_law_542 ?_
  refine lv_aload_n hx hb d_L_law_543 rfl (lv_at hl 4 rfl) ?_
  refine lv_iload hx hb d_L_law_544 (lv_at hl 0 rfl) ?_
  refine lv_iconst (v := 2) hx hb d_L_law_546 (by decide) ?_
  refine lv_iadd hx hb d_L_law_547 ?_
  refine lv_topi (fun x_2 ex_2 => ?_)
  obtain rfl : x_2 = nI (i + 2) := ex_2.trans (nI_add i 2)
  refine va_sld hx hb hX hbl hbA hS (x_inK (Nat.le_refl L) (by omega) (nI_pos (by omega)) (nI_ge (by omega) (by omega))) d_L_law_548 ?_
  refine lv_aload_n hx hb d_L_law_549 rfl (lv_at hl 4 rfl) ?_
  refine lv_iload hx hb d_L_law_550 (lv_at hl 0 rfl) ?_
  refine lv_iconst (v := 3) hx hb d_L_law_552 (by decide) ?_
  refine lv_iadd hx hb d_L_law_553 ?_
  refine lv_topi (fun x_3 ex_3 => ?_)
  obtain rfl : x_3 = nI (i + 3) := ex_3.trans (nI_add i 3)
  refine va_sld hx hb hX hbl hbA hS (x_inK (Nat.le_refl L) (by omega) (nI_pos (by omega)) (nI_ge (by omega) (by omega))) d_L_law_554 ?_
  refine lv_aload_n hx hb d_L_law_555 rfl (lv_at hl 1 rfl) ?_
  have hPc : va_P (dC, dI) vwCl (([(qo, .inl (cO, 1, .inr (.inl (fo))))] : va_W) ++ kW qK cB cD cR x ds) H := hP.left
  have hDc : va_D (fun q : Nat => s.heap.size ≤ q) (([(qo, .inl (cO, 1, .inr (.inl (fo))))] : va_W) ++ kW qK cB cD cR x ds) := hD.left
  have hKc : va_K (dC, dI) vwCl [(cO, .long), (cB, .byte), (cD, .object R_D), (cR, .object R_V)] s := hK.sub [0, 1, 2, 3] rfl
  have hFc : ∀ q : Nat, va_A (([(qo, .inl (cO, 1, .inr (.inl (fo))))] : va_W) ++ kW qK cB cD cR x ds) H.size q → (fun q : Nat => s.heap.size ≤ q) q := fr_free hD hS hA (List.Perm.refl _)
  have hS0 := hS
  refine va_calli (va_runSW (As := [.ref qK, .int (xs (Int32.toNatClampNeg (nI (i + 1)))), .int (xs (Int32.toNatClampNeg (nI (i + 2)))), .int (xs (Int32.toNatClampNeg (nI (i + 3)))), .ref qo]) (rest := []) ⟨hx, hb, hml, hown, hw0⟩ (w_pieceByte l hl9 dC dI H.size qK qo cB cD cR cO fo x ds σ (xs (Int32.toNatClampNeg (nI (i + 1)))) (xs (Int32.toNatClampNeg (nI (i + 2)))) (xs (Int32.toNatClampNeg (nI (i + 3)))) hsg hk) (csw_of 5 hw0 700 577 578 507 rfl rfl rfl rfl rfl rfl (by decide +kernel) ⟨by decide +kernel, by decide +kernel⟩) (prS_T hPc hKc hDc hN hTw (fun a ha => hS.2.1 a ha (Nat.not_le.mpr ha))) rfl rfl hl.1 rfl (lv_room (Nat.le_of_ble_eq_true rfl)) d_L_law_556 ⟨hcc, hss⟩) hS (fun q _ h => hFc q h) hFc (fun r u t H1 locs ht hvm hw hB hz1 hk1 hS => ?_)
  obtain ⟨fo2, x2, ds2, ⟨hk2, hout⟩, hP1, hK1, hD1⟩ := hB
  rw [ht] at hP1
  obtain ⟨hP, hD⟩ := fr_wld (W2 := ((([(qo, .inl (cO, 1, .inr (.inl (fo2))))] : va_W) ++ kW qK cB cD cR x2 ds2) ++ mW qM cB2 cI cL cZ y)) (A := (fun q : Nat => s.heap.size ≤ q)) (fun q hq => hA q (Nat.le_trans hS0.1 hq)) hP hD (List.Perm.refl _) hk1 hP1 hD1 (kz (List.Perm.refl _))
  clear hPc hDc hKc hFc hP1 hD1 hK1 hk1 hS0
  generalize H1 = H at hP hS ⊢
  refine lv_istore (lv' := [(5, .int r), (4, .int (nI i)), (3, .ref qo), (2, .ref qM), (1, .ref qK), (0, .ref b)]) hx hb d_L_law_559 hl (by decide) rfl (fun ls hl => ?_)
  refine lv_aload_n hx hb d_L_law_561 rfl (lv_at hl 3 rfl) ?_
  refine lv_aload_n hx hb d_L_law_562 rfl (lv_at hl 5 rfl) ?_
  refine lv_iload hx hb d_L_law_563 (lv_at hl 1 rfl) ?_
  refine lv_iconst (v := 1) hx hb d_L_law_565 (by decide) ?_
  refine lv_iadd hx hb d_L_law_566 ?_
  refine lv_topi (fun x_4 ex_4 => ?_)
  obtain rfl : x_4 = nI (i + 1) := ex_4.trans (nI_add i 1)
  refine va_sld hx hb hX hbl hbA hS (x_inK (Nat.le_refl L) (by omega) (nI_pos (by omega)) (nI_ge (by omega) (by omega))) d_L_law_567 ?_
  refine lv_aload_n hx hb d_L_law_568 rfl (lv_at hl 5 rfl) ?_
  refine lv_iload hx hb d_L_law_569 (lv_at hl 1 rfl) ?_
  refine lv_iconst (v := 2) hx hb d_L_law_571 (by decide) ?_
  refine lv_iadd hx hb d_L_law_572 ?_
  refine lv_topi (fun x_5 ex_5 => ?_)
  obtain rfl : x_5 = nI (i + 2) := ex_5.trans (nI_add i 2)
  refine va_sld hx hb hX hbl hbA hS (x_inK (Nat.le_refl L) (by omega) (nI_pos (by omega)) (nI_ge (by omega) (by omega))) d_L_law_573 ?_
  refine lv_aload_n hx hb d_L_law_574 rfl (lv_at hl 5 rfl) ?_
  refine lv_iload hx hb d_L_law_575 (lv_at hl 1 rfl) ?_
  refine lv_iconst (v := 3) hx hb d_L_law_577 (by decide) ?_
  refine lv_iadd hx hb d_L_law_578 ?_
  refine lv_topi (fun x_6 ex_6 => ?_)
  obtain rfl : x_6 = nI (i + 3) := ex_6.trans (nI_add i 3)
  refine va_sld hx hb hX hbl hbA hS (x_inK (Nat.le_refl L) (by omega) (nI_pos (by omega)) (nI_ge (by omega) (by omega))) d_L_law_579 ?_
  have hPc : va_P (dC, dI) vwCl (mW qM cB2 cI cL cZ y) H := (hP.perm List.perm_append_comm).left
  have hDc : va_D (fun q : Nat => s.heap.size ≤ q) (mW qM cB2 cI cL cZ y) := (hD.perm List.perm_append_comm).left
  have hKc : va_K (dC, dI) vwCl (mT cB2 cI cL cZ) s := hK.sub [4, 5, 6, 7] rfl
  have hFc : ∀ q : Nat, va_A (mW qM cB2 cI cL cZ y) H.size q → (fun q : Nat => s.heap.size ≤ q) q := fr_free hD hS hA List.perm_append_comm
  have hS0 := hS
  refine va_calli (va_runV (As := [.int (xs (Int32.toNatClampNeg (nI (i + 1)))), .int (xs (Int32.toNatClampNeg (nI (i + 2)))), .int (xs (Int32.toNatClampNeg (nI (i + 3))))]) (rest := []) ⟨hx, hb, hml, hown, hw0⟩ (u_pieceByte l dC dI H.size qM cB2 cI cL cZ y σ (xs (Int32.toNatClampNeg (nI (i + 1)))) (xs (Int32.toNatClampNeg (nI (i + 2)))) (xs (Int32.toNatClampNeg (nI (i + 3)))) hsg hm) (cwV 3 hw0 (gd_V 651 652 653 161 726 rfl rfl rfl rfl rfl) rfl rfl rfl (by decide +kernel) ⟨by decide +kernel, by decide +kernel⟩) (prV_E hPc hKc hDc hN (va_recv hKc hPc (ci := 7) (q0 := 0) rfl rfl)) rfl rfl hl.1 rfl (lv_room (Nat.le_of_ble_eq_true rfl)) d_L_law_580 ⟨hcc, hss⟩) hS (fun q _ h => hFc q h) hFc (fun r2 u t H1 locs ht hvm hw2 hB hz1 hk1 hS => ?_)
  obtain ⟨y2, ⟨hm2, hth⟩, hP1, hK1, hD1⟩ := hB
  rw [ht] at hP1
  obtain ⟨hP, hD⟩ := fr_wld (W2 := ((([(qo, .inl (cO, 1, .inr (.inl (fo2))))] : va_W) ++ kW qK cB cD cR x2 ds2) ++ mW qM cB2 cI cL cZ y2)) (A := (fun q : Nat => s.heap.size ≤ q)) (fun q hq => hA q (Nat.le_trans hS0.1 hq)) hP hD List.perm_append_comm hk1 hP1 hD1 (kz List.perm_append_comm)
  clear hPc hDc hKc hFc hP1 hD1 hK1 hk1 hS0
  generalize H1 = H at hP hS ⊢
  refine W.widen (k := c0 + 2) (n := s0 + 264) (Nat.le_refl _) (Nat.le_refl _) ?_
  refine lv_istore (lv' := [(6, .int r2), (5, .int r), (4, .int (nI i)), (3, .ref qo), (2, .ref qM), (1, .ref qK), (0, .ref b)]) hx hb d_L_law_583 hl (by decide) rfl (fun ls hl => ?_)
  refine lv_goto (tgt := 814) hx hb d_L_law_585 (by decide) ?_
  rw [st_byte] at hk2 hm2
  exact kk _ x2 ds2 y2 fo2 _ _ ls hsg hk2 hm2 hP hD hS (lv_sub hl [2, 3, 4, 5, 6] rfl)
