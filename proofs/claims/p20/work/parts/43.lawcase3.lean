set_option maxHeartbeats 4000000 in
set_option maxRecDepth 100000 in
theorem lw_c_12 {p : Program} {e : Env} {s : State} {m : MethodId} {below : List Frame} {meth : Method} {c : Code} (l : Launch) (hl9 : l.stackTraces = false) {b L : Nat} {xs : Nat → Int32} (hL : L ≤ 3072) (C0 : lw_At p s m meth c b L xs) {dC : Nat → ClassId} {dI : Nat → Nat → Nat} (qK qM qo : Nat) (cB cD cR cO cB2 cI cL cZ : ClassId) (fo : Nat → Int64) (x : KX) (ds : Nat → Option Dc) (y : MY) (σ : Sg) (i c0 s0 : Nat) (hi : i + 6 ≤ L) (hcc : c0 + 2 ≤ 601024) (hss : s0 + 264 ≤ 7293033) (hsg : sOk σ) (hk : kOk σ x ds) (hm : mOk σ y) (hN : nw_ok s) (hTw : tw_ok s) (hnc : nc_ok s) (hK : va_K (dC, dI) vwCl [(cO, .long), (cB, .byte), (cD, .object R_D), (cR, .object R_V), (cB2, .byte), (cI, .int), (cL, .short), (cZ, .boolean)] s) (H : Heap) (locs : List Loc) (hP : va_P (dC, dI) vwCl ((([(qo, .inl (cO, 1, .inr (.inl (fo))))] : va_W) ++ kW qK cB cD cR x ds) ++ mW qM cB2 cI cL cZ y) H) (hD : va_D (fun q : Nat => s.heap.size ≤ q) ((([(qo, .inl (cO, 1, .inr (.inl (fo))))] : va_W) ++ kW qK cB cD cR x ds) ++ mW qM cB2 cI cL cZ y)) (hS : va_S (fun q : Nat => s.heap.size ≤ q) s.heap H locs) (ls : Array Slot) (hl : lv_has ls 7 [(4, .int (nI i)), (3, .ref qo), (2, .ref qM), (1, .ref qK), (0, .ref b)]) (kk : ∀ (σ : Sg) (x : KX) (ds : Nat → Option Dc) (y : MY) (fo : Nat → Int64) (H : Heap) (locs : List Loc) (ls : Array Slot), sOk σ → kOk σ x ds → mOk σ y → va_P (dC, dI) vwCl ((([(qo, .inl (cO, 1, .inr (.inl (fo))))] : va_W) ++ kW qK cB cD cR x ds) ++ mW qM cB2 cI cL cZ y) H → va_D (fun q : Nat => s.heap.size ≤ q) ((([(qo, .inl (cO, 1, .inr (.inl (fo))))] : va_W) ++ kW qK cB cD cR x ds) ++ mW qM cB2 cI cL cZ y) → va_S (fun q : Nat => s.heap.size ≤ q) s.heap H locs → lv_has ls 7 [(4, .int (nI i)), (3, .ref qo), (2, .ref qM), (1, .ref qK), (0, .ref b)] → W p l e room_1 s m #[Value.ref b] below meth c H locs (c0 + 2) (s0 + 264) (lw_Z below #[Value.ref b] s) (F0 m 814 ls [])) : W p l e room_1 s m #[Value.ref b] below meth c H locs c0 s0 (lw_Z below #[Value.ref b] s) (F0 m 588 ls []) := by
  obtain ⟨hx, hb, hr, hml, hown, hts, hX, hbl, hlocks, hgv⟩ := id C0
  have hw0 : ∀ w ∈ w0, w.before #[Value.ref b] s = true := fun w h => hts w (w0_ok w h).1
  have hA : ∀ q : Nat, s.heap.size ≤ q → (fun q : Nat => s.heap.size ≤ q) q := fun _ h => h
  have hbA : ¬ (fun q : Nat => s.heap.size ≤ q) b := Nat.not_le.mpr hbl
  refine lv_aload_n hx hb d_L_law_588 rfl (lv_at hl 3 rfl) ?_
  refine lv_aload_n hx hb d_L_law_589 rfl (lv_at hl 4 rfl) ?_
  refine lv_iload hx hb d_L_law_590 (lv_at hl 0 rfl) ?_
  refine lv_iconst (v := 1) hx hb d_L_law_592 (by decide) ?_
  refine lv_iadd hx hb d_L_law_593 ?_
  refine lv_topi (fun x_1 ex_1 => ?_)
  obtain rfl : x_1 = nI (i + 1) := ex_1.trans (nI_add i 1)
  refine va_sld hx hb hX hbl hbA hS (x_inK (Nat.le_refl L) (by omega) (nI_pos (by omega)) (nI_ge (by omega) (by omega))) d_L_law_594 ?_
  refine lv_aload_n hx hb d_L_law_595 rfl (lv_at hl 4 rfl) ?_
  refine lv_iload hx hb d_L_law_596 (lv_at hl 0 rfl) ?_
  refine lv_iconst (v := 2) hx hb d_L_law_598 (by decide) ?_
  refine lv_iadd hx hb d_L_law_599 ?_
  refine lv_topi (fun x_2 ex_2 => ?_)
  obtain rfl : x_2 = nI (i + 2) := ex_2.trans (nI_add i 2)
  refine va_sld hx hb hX hbl hbA hS (x_inK (Nat.le_refl L) (by omega) (nI_pos (by omega)) (nI_ge (by omega) (by omega))) d_L_law_600 ?_
  refine lv_aload_n hx hb d_L_law_601 rfl (lv_at hl 4 rfl) ?_
  refine lv_iload hx hb d_L_law_602 (lv_at hl 0 rfl) ?_
  refine lv_iconst (v := 3) hx hb d_L_law_604 (by decide) ?_
  refine lv_iadd hx hb d_L_law_605 ?_
  refine lv_topi (fun x_3 ex_3 => ?_)
  obtain rfl : x_3 = nI (i + 3) := ex_3.trans (nI_add i 3)
  refine va_sld hx hb hX hbl hbA hS (x_inK (Nat.le_refl L) (by omega) (nI_pos (by omega)) (nI_ge (by omega) (by omega))) d_L_law_606 ?_
  refine lv_aload_n hx hb d_L_law_607 rfl (lv_at hl 4 rfl) ?_
  refine lv_iload hx hb d_L_law_608 (lv_at hl 0 rfl) ?_
  refine lv_iconst (v := 4) hx hb d_L_law_610 (by decide) ?_
  refine lv_iadd hx hb d_L_law_611 ?_
  refine lv_topi (fun x_4 ex_4 => ?_)
  obtain rfl : x_4 = nI (i + 4) := ex_4.trans (nI_add i 4)
  refine va_sld hx hb hX hbl hbA hS (x_inK (Nat.le_refl L) (by omega) (nI_pos (by omega)) (nI_ge (by omega) (by omega))) d_L_law_612 ?_
  refine lv_aload_n hx hb d_L_law_613 rfl (lv_at hl 1 rfl) ?_
  have hPc : va_P (dC, dI) vwCl (([(qo, .inl (cO, 1, .inr (.inl (fo))))] : va_W) ++ kW qK cB cD cR x ds) H := hP.left
  have hDc : va_D (fun q : Nat => s.heap.size ≤ q) (([(qo, .inl (cO, 1, .inr (.inl (fo))))] : va_W) ++ kW qK cB cD cR x ds) := hD.left
  have hKc : va_K (dC, dI) vwCl [(cO, .long), (cB, .byte), (cD, .object R_D), (cR, .object R_V)] s := hK.sub [0, 1, 2, 3] rfl
  have hFc : ∀ q : Nat, va_A (([(qo, .inl (cO, 1, .inr (.inl (fo))))] : va_W) ++ kW qK cB cD cR x ds) H.size q → (fun q : Nat => s.heap.size ≤ q) q := fr_free hD hS hA (List.Perm.refl _)
  have hS0 := hS
  refine va_calli (va_runSW (As := [.ref qK, .int (xs (Int32.toNatClampNeg (nI (i + 1)))), .int (xs (Int32.toNatClampNeg (nI (i + 2)))), .int (xs (Int32.toNatClampNeg (nI (i + 3)))), .int (xs (Int32.toNatClampNeg (nI (i + 4)))), .ref qo]) (rest := []) ⟨hx, hb, hml, hown, hw0⟩ (w_damage l hl9 dC dI H.size qK qo cB cD cR cO fo x ds σ (xs (Int32.toNatClampNeg (nI (i + 1)))) (xs (Int32.toNatClampNeg (nI (i + 2)))) (xs (Int32.toNatClampNeg (nI (i + 3)))) (xs (Int32.toNatClampNeg (nI (i + 4)))) hsg hk) (csw_of 6 hw0 702 582 583 507 rfl rfl rfl rfl rfl rfl (by decide +kernel) ⟨by decide +kernel, by decide +kernel⟩) (prS_T hPc hKc hDc hN hTw (fun a ha => hS.2.1 a ha (Nat.not_le.mpr ha))) rfl rfl hl.1 rfl (lv_room (Nat.le_of_ble_eq_true rfl)) d_L_law_614 ⟨hcc, hss⟩) hS (fun q _ h => hFc q h) hFc (fun r u t H1 locs ht hvm hw hB hz1 hk1 hS => ?_)
  obtain ⟨fo2, x2, ds2, ⟨hk2, hout⟩, hP1, hK1, hD1⟩ := hB
  rw [ht] at hP1
  obtain ⟨hP, hD⟩ := fr_wld (W2 := ((([(qo, .inl (cO, 1, .inr (.inl (fo2))))] : va_W) ++ kW qK cB cD cR x2 ds2) ++ mW qM cB2 cI cL cZ y)) (A := (fun q : Nat => s.heap.size ≤ q)) (fun q hq => hA q (Nat.le_trans hS0.1 hq)) hP hD (List.Perm.refl _) hk1 hP1 hD1 (kz (List.Perm.refl _))
  clear hPc hDc hKc hFc hP1 hD1 hK1 hk1 hS0
  generalize H1 = H at hP hS ⊢
  refine lv_istore (lv' := [(5, .int r), (4, .int (nI i)), (3, .ref qo), (2, .ref qM), (1, .ref qK), (0, .ref b)]) hx hb d_L_law_617 hl (by decide) rfl (fun ls hl => ?_)
  refine lv_aload_n hx hb d_L_law_619 rfl (lv_at hl 3 rfl) ?_
  refine lv_aload_n hx hb d_L_law_620 rfl (lv_at hl 5 rfl) ?_
  refine lv_iload hx hb d_L_law_621 (lv_at hl 1 rfl) ?_
  refine lv_iconst (v := 1) hx hb d_L_law_623 (by decide) ?_
  refine lv_iadd hx hb d_L_law_624 ?_
  refine lv_topi (fun x_5 ex_5 => ?_)
  obtain rfl : x_5 = nI (i + 1) := ex_5.trans (nI_add i 1)
  refine va_sld hx hb hX hbl hbA hS (x_inK (Nat.le_refl L) (by omega) (nI_pos (by omega)) (nI_ge (by omega) (by omega))) d_L_law_625 ?_
  refine lv_aload_n hx hb d_L_law_626 rfl (lv_at hl 5 rfl) ?_
  refine lv_iload hx hb d_L_law_627 (lv_at hl 1 rfl) ?_
  refine lv_iconst (v := 2) hx hb d_L_law_629 (by decide) ?_
  refine lv_iadd hx hb d_L_law_630 ?_
  refine lv_topi (fun x_6 ex_6 => ?_)
  obtain rfl : x_6 = nI (i + 2) := ex_6.trans (nI_add i 2)
  refine va_sld hx hb hX hbl hbA hS (x_inK (Nat.le_refl L) (by omega) (nI_pos (by omega)) (nI_ge (by omega) (by omega))) d_L_law_631 ?_
  refine lv_aload_n hx hb d_L_law_632 rfl (lv_at hl 5 rfl) ?_
  refine lv_iload hx hb d_L_law_633 (lv_at hl 1 rfl) ?_
  refine lv_iconst (v := 3) hx hb d_L_law_635 (by decide) ?_
  refine lv_iadd hx hb d_L_law_636 ?_
  refine lv_topi (fun x_7 ex_7 => ?_)
  obtain rfl : x_7 = nI (i + 3) := ex_7.trans (nI_add i 3)
  refine va_sld hx hb hX hbl hbA hS (x_inK (Nat.le_refl L) (by omega) (nI_pos (by omega)) (nI_ge (by omega) (by omega))) d_L_law_637 ?_
  refine lv_aload_n hx hb d_L_law_638 rfl (lv_at hl 5 rfl) ?_
  refine lv_iload hx hb d_L_law_639 (lv_at hl 1 rfl) ?_
  refine lv_iconst (v := 4) hx hb d_L_law_641 (by decide) ?_
  refine lv_iadd hx hb d_L_law_642 ?_
  refine lv_topi (fun x_8 ex_8 => ?_)
  obtain rfl : x_8 = nI (i + 4) := ex_8.trans (nI_add i 4)
  refine va_sld hx hb hX hbl hbA hS (x_inK (Nat.le_refl L) (by omega) (nI_pos (by omega)) (nI_ge (by omega) (by omega))) d_L_law_643 ?_
  have hPc : va_P (dC, dI) vwCl (mW qM cB2 cI cL cZ y) H := (hP.perm List.perm_append_comm).left
  have hDc : va_D (fun q : Nat => s.heap.size ≤ q) (mW qM cB2 cI cL cZ y) := (hD.perm List.perm_append_comm).left
  have hKc : va_K (dC, dI) vwCl (mT cB2 cI cL cZ) s := hK.sub [4, 5, 6, 7] rfl
  have hFc : ∀ q : Nat, va_A (mW qM cB2 cI cL cZ y) H.size q → (fun q : Nat => s.heap.size ≤ q) q := fr_free hD hS hA List.perm_append_comm
  have hS0 := hS
  refine va_calli (va_runV (As := [.int (xs (Int32.toNatClampNeg (nI (i + 1)))), .int (xs (Int32.toNatClampNeg (nI (i + 2)))), .int (xs (Int32.toNatClampNeg (nI (i + 3)))), .int (xs (Int32.toNatClampNeg (nI (i + 4))))]) (rest := []) ⟨hx, hb, hml, hown, hw0⟩ (u_damage l dC dI H.size qM cB2 cI cL cZ y σ (xs (Int32.toNatClampNeg (nI (i + 1)))) (xs (Int32.toNatClampNeg (nI (i + 2)))) (xs (Int32.toNatClampNeg (nI (i + 3)))) (xs (Int32.toNatClampNeg (nI (i + 4)))) hsg hm) (cwV 4 hw0 (gd_V 654 655 656 161 727 rfl rfl rfl rfl rfl) rfl rfl rfl (by decide +kernel) ⟨by decide +kernel, by decide +kernel⟩) (prV_E hPc hKc hDc hN (va_recv hKc hPc (ci := 7) (q0 := 0) rfl rfl)) rfl rfl hl.1 rfl (lv_room (Nat.le_of_ble_eq_true rfl)) d_L_law_644 ⟨hcc, hss⟩) hS (fun q _ h => hFc q h) hFc (fun r2 u t H1 locs ht hvm hw2 hB hz1 hk1 hS => ?_)
  obtain ⟨y2, ⟨hm2, hth⟩, hP1, hK1, hD1⟩ := hB
  rw [ht] at hP1
  obtain ⟨hP, hD⟩ := fr_wld (W2 := ((([(qo, .inl (cO, 1, .inr (.inl (fo2))))] : va_W) ++ kW qK cB cD cR x2 ds2) ++ mW qM cB2 cI cL cZ y2)) (A := (fun q : Nat => s.heap.size ≤ q)) (fun q hq => hA q (Nat.le_trans hS0.1 hq)) hP hD List.perm_append_comm hk1 hP1 hD1 (kz List.perm_append_comm)
  clear hPc hDc hKc hFc hP1 hD1 hK1 hk1 hS0
  generalize H1 = H at hP hS ⊢
  refine W.widen (k := c0 + 2) (n := s0 + 264) (Nat.le_refl _) (Nat.le_refl _) ?_
  refine lv_istore (lv' := [(6, .int r2), (5, .int r), (4, .int (nI i)), (3, .ref qo), (2, .ref qM), (1, .ref qK), (0, .ref b)]) hx hb d_L_law_647 hl (by decide) rfl (fun ls hl => ?_)
  refine lv_goto (tgt := 814) hx hb d_L_law_649 (by decide) ?_
  exact kk _ x2 ds2 y2 fo2 _ _ ls (sOk_of (sW_damage (sW_of hsg)) hk2) hk2 hm2 hP hD hS (lv_sub hl [2, 3, 4, 5, 6] rfl)
set_option maxHeartbeats 4000000 in
set_option maxRecDepth 100000 in
theorem lw_c_13 {p : Program} {e : Env} {s : State} {m : MethodId} {below : List Frame} {meth : Method} {c : Code} (l : Launch) (hl9 : l.stackTraces = false) {b L : Nat} {xs : Nat → Int32} (hL : L ≤ 3072) (C0 : lw_At p s m meth c b L xs) {dC : Nat → ClassId} {dI : Nat → Nat → Nat} (qK qM qo : Nat) (cB cD cR cO cB2 cI cL cZ : ClassId) (fo : Nat → Int64) (x : KX) (ds : Nat → Option Dc) (y : MY) (σ : Sg) (i c0 s0 : Nat) (hi : i + 6 ≤ L) (hcc : c0 + 2 ≤ 601024) (hss : s0 + 264 ≤ 7293033) (hsg : sOk σ) (hk : kOk σ x ds) (hm : mOk σ y) (hN : nw_ok s) (hTw : tw_ok s) (hnc : nc_ok s) (hK : va_K (dC, dI) vwCl [(cO, .long), (cB, .byte), (cD, .object R_D), (cR, .object R_V), (cB2, .byte), (cI, .int), (cL, .short), (cZ, .boolean)] s) (H : Heap) (locs : List Loc) (hP : va_P (dC, dI) vwCl ((([(qo, .inl (cO, 1, .inr (.inl (fo))))] : va_W) ++ kW qK cB cD cR x ds) ++ mW qM cB2 cI cL cZ y) H) (hD : va_D (fun q : Nat => s.heap.size ≤ q) ((([(qo, .inl (cO, 1, .inr (.inl (fo))))] : va_W) ++ kW qK cB cD cR x ds) ++ mW qM cB2 cI cL cZ y)) (hS : va_S (fun q : Nat => s.heap.size ≤ q) s.heap H locs) (ls : Array Slot) (hl : lv_has ls 7 [(4, .int (nI i)), (3, .ref qo), (2, .ref qM), (1, .ref qK), (0, .ref b)]) (kk : ∀ (σ : Sg) (x : KX) (ds : Nat → Option Dc) (y : MY) (fo : Nat → Int64) (H : Heap) (locs : List Loc) (ls : Array Slot), sOk σ → kOk σ x ds → mOk σ y → va_P (dC, dI) vwCl ((([(qo, .inl (cO, 1, .inr (.inl (fo))))] : va_W) ++ kW qK cB cD cR x ds) ++ mW qM cB2 cI cL cZ y) H → va_D (fun q : Nat => s.heap.size ≤ q) ((([(qo, .inl (cO, 1, .inr (.inl (fo))))] : va_W) ++ kW qK cB cD cR x ds) ++ mW qM cB2 cI cL cZ y) → va_S (fun q : Nat => s.heap.size ≤ q) s.heap H locs → lv_has ls 7 [(4, .int (nI i)), (3, .ref qo), (2, .ref qM), (1, .ref qK), (0, .ref b)] → W p l e room_1 s m #[Value.ref b] below meth c H locs (c0 + 2) (s0 + 264) (lw_Z below #[Value.ref b] s) (F0 m 814 ls [])) : W p l e room_1 s m #[Value.ref b] below meth c H locs c0 s0 (lw_Z below #[Value.ref b] s) (F0 m 652 ls []) := by
  obtain ⟨hx, hb, hr, hml, hown, hts, hX, hbl, hlocks, hgv⟩ := id C0
  have hw0 : ∀ w ∈ w0, w.before #[Value.ref b] s = true := fun w h => hts w (w0_ok w h).1
  have hA : ∀ q : Nat, s.heap.size ≤ q → (fun q : Nat => s.heap.size ≤ q) q := fun _ h => h
  have hbA : ¬ (fun q : Nat => s.heap.size ≤ q) b := Nat.not_le.mpr hbl
  refine lv_aload_n hx hb d_L_law_652 rfl (lv_at hl 3 rfl) ?_
  refine lv_aload_n hx hb d_L_law_653 rfl (lv_at hl 4 rfl) ?_
  refine lv_iload hx hb d_L_law_654 (lv_at hl 0 rfl) ?_
  refine lv_iconst (v := 1) hx hb d_L_law_656 (by decide) ?_
  refine lv_iadd hx hb d_L_law_657 ?_
  refine lv_topi (fun x_1 ex_1 => ?_)
  obtain rfl : x_1 = nI (i + 1) := ex_1.trans (nI_add i 1)
  refine va_sld hx hb hX hbl hbA hS (x_inK (Nat.le_refl L) (by omega) (nI_pos (by omega)) (nI_ge (by omega) (by omega))) d_L_law_658 ?_
  refine lv_aload_n hx hb d_L_law_659 rfl (lv_at hl 1 rfl) ?_
  have hPc : va_P (dC, dI) vwCl (([(qo, .inl (cO, 1, .inr (.inl (fo))))] : va_W) ++ kW qK cB cD cR x ds) H := hP.left
  have hDc : va_D (fun q : Nat => s.heap.size ≤ q) (([(qo, .inl (cO, 1, .inr (.inl (fo))))] : va_W) ++ kW qK cB cD cR x ds) := hD.left
  have hKc : va_K (dC, dI) vwCl [(cO, .long), (cB, .byte), (cD, .object R_D), (cR, .object R_V)] s := hK.sub [0, 1, 2, 3] rfl
  have hFc : ∀ q : Nat, va_A (([(qo, .inl (cO, 1, .inr (.inl (fo))))] : va_W) ++ kW qK cB cD cR x ds) H.size q → (fun q : Nat => s.heap.size ≤ q) q := fr_free hD hS hA (List.Perm.refl _)
  have hS0 := hS
  refine va_calli (va_runSW (As := [.ref qK, .int (xs (Int32.toNatClampNeg (nI (i + 1)))), .ref qo]) (rest := []) ⟨hx, hb, hml, hown, hw0⟩ (w_verify l hl9 dC dI H.size qK qo cB cD cR cO fo x ds σ (xs (Int32.toNatClampNeg (nI (i + 1)))) hsg hk) (csw_of 3 hw0 704 587 588 507 rfl rfl rfl rfl rfl rfl (by decide +kernel) ⟨by decide +kernel, by decide +kernel⟩) (prS_T hPc hKc hDc hN hTw (fun a ha => hS.2.1 a ha (Nat.not_le.mpr ha))) rfl rfl hl.1 rfl (lv_room (Nat.le_of_ble_eq_true rfl)) d_L_law_660 ⟨hcc, hss⟩) hS (fun q _ h => hFc q h) hFc (fun r u t H1 locs ht hvm hw hB hz1 hk1 hS => ?_)
  obtain ⟨fo2, x2, ds2, ⟨hk2, hout⟩, hP1, hK1, hD1⟩ := hB
  rw [ht] at hP1
  obtain ⟨hP, hD⟩ := fr_wld (W2 := ((([(qo, .inl (cO, 1, .inr (.inl (fo2))))] : va_W) ++ kW qK cB cD cR x2 ds2) ++ mW qM cB2 cI cL cZ y)) (A := (fun q : Nat => s.heap.size ≤ q)) (fun q hq => hA q (Nat.le_trans hS0.1 hq)) hP hD (List.Perm.refl _) hk1 hP1 hD1 (kz (List.Perm.refl _))
  clear hPc hDc hKc hFc hP1 hD1 hK1 hk1 hS0
  generalize H1 = H at hP hS ⊢
  refine lv_istore (lv' := [(5, .int r), (4, .int (nI i)), (3, .ref qo), (2, .ref qM), (1, .ref qK), (0, .ref b)]) hx hb d_L_law_663 hl (by decide) rfl (fun ls hl => ?_)
  refine lv_aload_n hx hb d_L_law_665 rfl (lv_at hl 3 rfl) ?_
  refine lv_aload_n hx hb d_L_law_666 rfl (lv_at hl 5 rfl) ?_
  refine lv_iload hx hb d_L_law_667 (lv_at hl 1 rfl) ?_
  refine lv_iconst (v := 1) hx hb d_L_law_669 (by decide) ?_
  refine lv_iadd hx hb d_L_law_670 ?_
  refine lv_topi (fun x_2 ex_2 => ?_)
  obtain rfl : x_2 = nI (i + 1) := ex_2.trans (nI_add i 1)
  refine va_sld hx hb hX hbl hbA hS (x_inK (Nat.le_refl L) (by omega) (nI_pos (by omega)) (nI_ge (by omega) (by omega))) d_L_law_671 ?_
  have hPc : va_P (dC, dI) vwCl (mW qM cB2 cI cL cZ y) H := (hP.perm List.perm_append_comm).left
  have hDc : va_D (fun q : Nat => s.heap.size ≤ q) (mW qM cB2 cI cL cZ y) := (hD.perm List.perm_append_comm).left
  have hKc : va_K (dC, dI) vwCl (mT cB2 cI cL cZ) s := hK.sub [4, 5, 6, 7] rfl
  have hFc : ∀ q : Nat, va_A (mW qM cB2 cI cL cZ y) H.size q → (fun q : Nat => s.heap.size ≤ q) q := fr_free hD hS hA List.perm_append_comm
  have hS0 := hS
  refine va_calli (va_runV (As := [.int (xs (Int32.toNatClampNeg (nI (i + 1))))]) (rest := []) ⟨hx, hb, hml, hown, hw0⟩ (u_verify l dC dI H.size qM cB2 cI cL cZ y σ (xs (Int32.toNatClampNeg (nI (i + 1)))) hsg hm) (cwV 1 hw0 (gd_V 657 658 659 161 728 rfl rfl rfl rfl rfl) rfl rfl rfl (by decide +kernel) ⟨by decide +kernel, by decide +kernel⟩) (prV_E hPc hKc hDc hN (va_recv hKc hPc (ci := 7) (q0 := 0) rfl rfl)) rfl rfl hl.1 rfl (lv_room (Nat.le_of_ble_eq_true rfl)) d_L_law_672 ⟨hcc, hss⟩) hS (fun q _ h => hFc q h) hFc (fun r2 u t H1 locs ht hvm hw2 hB hz1 hk1 hS => ?_)
  obtain ⟨y2, ⟨hm2, hth⟩, hP1, hK1, hD1⟩ := hB
  rw [ht] at hP1
  obtain ⟨hP, hD⟩ := fr_wld (W2 := ((([(qo, .inl (cO, 1, .inr (.inl (fo2))))] : va_W) ++ kW qK cB cD cR x2 ds2) ++ mW qM cB2 cI cL cZ y2)) (A := (fun q : Nat => s.heap.size ≤ q)) (fun q hq => hA q (Nat.le_trans hS0.1 hq)) hP hD List.perm_append_comm hk1 hP1 hD1 (kz List.perm_append_comm)
  clear hPc hDc hKc hFc hP1 hD1 hK1 hk1 hS0
  generalize H1 = H at hP hS ⊢
  refine W.widen (k := c0 + 2) (n := s0 + 264) (Nat.le_refl _) (Nat.le_refl _) ?_
  refine lv_istore (lv' := [(6, .int r2), (5, .int r), (4, .int (nI i)), (3, .ref qo), (2, .ref qM), (1, .ref qK), (0, .ref b)]) hx hb d_L_law_675 hl (by decide) rfl (fun ls hl => ?_)
  refine lv_goto (tgt := 814) hx hb d_L_law_677 (by decide) ?_
  rw [st_verify] at hk2 hm2
  exact kk _ x2 ds2 y2 fo2 _ _ ls hsg hk2 hm2 hP hD hS (lv_sub hl [2, 3, 4, 5, 6] rfl)
set_option maxHeartbeats 4000000 in
set_option maxRecDepth 100000 in
theorem lw_c_14 {p : Program} {e : Env} {s : State} {m : MethodId} {below : List Frame} {meth : Method} {c : Code} (l : Launch) (hl9 : l.stackTraces = false) {b L : Nat} {xs : Nat → Int32} (hL : L ≤ 3072) (C0 : lw_At p s m meth c b L xs) {dC : Nat → ClassId} {dI : Nat → Nat → Nat} (qK qM qo : Nat) (cB cD cR cO cB2 cI cL cZ : ClassId) (fo : Nat → Int64) (x : KX) (ds : Nat → Option Dc) (y : MY) (σ : Sg) (i c0 s0 : Nat) (hi : i + 6 ≤ L) (hcc : c0 + 2 ≤ 601024) (hss : s0 + 264 ≤ 7293033) (hsg : sOk σ) (hk : kOk σ x ds) (hm : mOk σ y) (hN : nw_ok s) (hTw : tw_ok s) (hnc : nc_ok s) (hK : va_K (dC, dI) vwCl [(cO, .long), (cB, .byte), (cD, .object R_D), (cR, .object R_V), (cB2, .byte), (cI, .int), (cL, .short), (cZ, .boolean)] s) (H : Heap) (locs : List Loc) (hP : va_P (dC, dI) vwCl ((([(qo, .inl (cO, 1, .inr (.inl (fo))))] : va_W) ++ kW qK cB cD cR x ds) ++ mW qM cB2 cI cL cZ y) H) (hD : va_D (fun q : Nat => s.heap.size ≤ q) ((([(qo, .inl (cO, 1, .inr (.inl (fo))))] : va_W) ++ kW qK cB cD cR x ds) ++ mW qM cB2 cI cL cZ y)) (hS : va_S (fun q : Nat => s.heap.size ≤ q) s.heap H locs) (ls : Array Slot) (hl : lv_has ls 7 [(4, .int (nI i)), (3, .ref qo), (2, .ref qM), (1, .ref qK), (0, .ref b)]) (kk : ∀ (σ : Sg) (x : KX) (ds : Nat → Option Dc) (y : MY) (fo : Nat → Int64) (H : Heap) (locs : List Loc) (ls : Array Slot), sOk σ → kOk σ x ds → mOk σ y → va_P (dC, dI) vwCl ((([(qo, .inl (cO, 1, .inr (.inl (fo))))] : va_W) ++ kW qK cB cD cR x ds) ++ mW qM cB2 cI cL cZ y) H → va_D (fun q : Nat => s.heap.size ≤ q) ((([(qo, .inl (cO, 1, .inr (.inl (fo))))] : va_W) ++ kW qK cB cD cR x ds) ++ mW qM cB2 cI cL cZ y) → va_S (fun q : Nat => s.heap.size ≤ q) s.heap H locs → lv_has ls 7 [(4, .int (nI i)), (3, .ref qo), (2, .ref qM), (1, .ref qK), (0, .ref b)] → W p l e room_1 s m #[Value.ref b] below meth c H locs (c0 + 2) (s0 + 264) (lw_Z below #[Value.ref b] s) (F0 m 814 ls [])) : W p l e room_1 s m #[Value.ref b] below meth c H locs c0 s0 (lw_Z below #[Value.ref b] s) (F0 m 680 ls []) := by
  obtain ⟨hx, hb, hr, hml, hown, hts, hX, hbl, hlocks, hgv⟩ := id C0
  have hw0 : ∀ w ∈ w0, w.before #[Value.ref b] s = true := fun w h => hts w (w0_ok w h).1
  have hA : ∀ q : Nat, s.heap.size ≤ q → (fun q : Nat => s.heap.size ≤ q) q := fun _ h => h
  have hbA : ¬ (fun q : Nat => s.heap.size ≤ q) b := Nat.not_le.mpr hbl
  refine lv_aload_n hx hb d_L_law_680 rfl (lv_at hl 3 rfl) ?_
  refine lv_aload_n hx hb d_L_law_681 rfl (lv_at hl 4 rfl) ?_
  refine lv_iload hx hb d_L_law_682 (lv_at hl 0 rfl) ?_
  refine lv_iconst (v := 1) hx hb d_L_law_684 (by decide) ?_
  refine lv_iadd hx hb d_L_law_685 ?_
  refine lv_topi (fun x_1 ex_1 => ?_)
  obtain rfl : x_1 = nI (i + 1) := ex_1.trans (nI_add i 1)
  refine va_sld hx hb hX hbl hbA hS (x_inK (Nat.le_refl L) (by omega) (nI_pos (by omega)) (nI_ge (by omega) (by omega))) d_L_law_686 ?_
  refine lv_aload_n hx hb d_L_law_687 rfl (lv_at hl 4 rfl) ?_
  refine lv_iload hx hb d_L_law_688 (lv_at hl 0 rfl) ?_
  refine lv_iconst (v := 2) hx hb d_L_law_690 (by decide) ?_
  refine lv_iadd hx hb d_L_law_691 ?_
  refine lv_topi (fun x_2 ex_2 => ?_)
  obtain rfl : x_2 = nI (i + 2) := ex_2.trans (nI_add i 2)
  refine va_sld hx hb hX hbl hbA hS (x_inK (Nat.le_refl L) (by omega) (nI_pos (by omega)) (nI_ge (by omega) (by omega))) d_L_law_692 ?_
  refine lv_aload_n hx hb d_L_law_693 rfl (lv_at hl 4 rfl) ?_
  refine lv_iload hx hb d_L_law_694 (lv_at hl 0 rfl) ?_
  refine lv_iconst (v := 3) hx hb d_L_law_696 (by decide) ?_
  refine lv_iadd hx hb d_L_law_697 ?_
  refine lv_topi (fun x_3 ex_3 => ?_)
  obtain rfl : x_3 = nI (i + 3) := ex_3.trans (nI_add i 3)
  refine va_sld hx hb hX hbl hbA hS (x_inK (Nat.le_refl L) (by omega) (nI_pos (by omega)) (nI_ge (by omega) (by omega))) d_L_law_698 ?_
  refine lv_aload_n hx hb d_L_law_699 rfl (lv_at hl 4 rfl) ?_
  refine lv_iload hx hb d_L_law_700 (lv_at hl 0 rfl) ?_
  refine lv_iconst (v := 4) hx hb d_L_law_702 (by decide) ?_
  refine lv_iadd hx hb d_L_law_703 ?_
  refine lv_topi (fun x_4 ex_4 => ?_)
  obtain rfl : x_4 = nI (i + 4) := ex_4.trans (nI_add i 4)
  refine va_sld hx hb hX hbl hbA hS (x_inK (Nat.le_refl L) (by omega) (nI_pos (by omega)) (nI_ge (by omega) (by omega))) d_L_law_704 ?_
  refine lv_aload_n hx hb d_L_law_705 rfl (lv_at hl 1 rfl) ?_
  have hPc : va_P (dC, dI) vwCl (([(qo, .inl (cO, 1, .inr (.inl (fo))))] : va_W) ++ kW qK cB cD cR x ds) H := hP.left
  have hDc : va_D (fun q : Nat => s.heap.size ≤ q) (([(qo, .inl (cO, 1, .inr (.inl (fo))))] : va_W) ++ kW qK cB cD cR x ds) := hD.left
  have hKc : va_K (dC, dI) vwCl [(cO, .long), (cB, .byte), (cD, .object R_D), (cR, .object R_V)] s := hK.sub [0, 1, 2, 3] rfl
  have hFc : ∀ q : Nat, va_A (([(qo, .inl (cO, 1, .inr (.inl (fo))))] : va_W) ++ kW qK cB cD cR x ds) H.size q → (fun q : Nat => s.heap.size ≤ q) q := fr_free hD hS hA (List.Perm.refl _)
  have hS0 := hS
  refine va_calli (va_runSW (As := [.ref qK, .int (xs (Int32.toNatClampNeg (nI (i + 1)))), .int (xs (Int32.toNatClampNeg (nI (i + 2)))), .int (xs (Int32.toNatClampNeg (nI (i + 3)))), .int (xs (Int32.toNatClampNeg (nI (i + 4)))), .ref qo]) (rest := []) ⟨hx, hb, hml, hown, hw0⟩ (w_common l hl9 dC dI H.size qK qo cB cD cR cO fo x ds σ (xs (Int32.toNatClampNeg (nI (i + 1)))) (xs (Int32.toNatClampNeg (nI (i + 2)))) (xs (Int32.toNatClampNeg (nI (i + 3)))) (xs (Int32.toNatClampNeg (nI (i + 4)))) hsg hk) (csw_of 6 hw0 707 594 595 507 rfl rfl rfl rfl rfl rfl (by decide +kernel) ⟨by decide +kernel, by decide +kernel⟩) (prS_T hPc hKc hDc hN hTw (fun a ha => hS.2.1 a ha (Nat.not_le.mpr ha))) rfl rfl hl.1 rfl (lv_room (Nat.le_of_ble_eq_true rfl)) d_L_law_706 ⟨hcc, hss⟩) hS (fun q _ h => hFc q h) hFc (fun r u t H1 locs ht hvm hw hB hz1 hk1 hS => ?_)
  obtain ⟨fo2, x2, ds2, ⟨hk2, hout⟩, hP1, hK1, hD1⟩ := hB
  rw [ht] at hP1
  obtain ⟨hP, hD⟩ := fr_wld (W2 := ((([(qo, .inl (cO, 1, .inr (.inl (fo2))))] : va_W) ++ kW qK cB cD cR x2 ds2) ++ mW qM cB2 cI cL cZ y)) (A := (fun q : Nat => s.heap.size ≤ q)) (fun q hq => hA q (Nat.le_trans hS0.1 hq)) hP hD (List.Perm.refl _) hk1 hP1 hD1 (kz (List.Perm.refl _))
  clear hPc hDc hKc hFc hP1 hD1 hK1 hk1 hS0
  generalize H1 = H at hP hS ⊢
  refine lv_istore (lv' := [(5, .int r), (4, .int (nI i)), (3, .ref qo), (2, .ref qM), (1, .ref qK), (0, .ref b)]) hx hb d_L_law_709 hl (by decide) rfl (fun ls hl => ?_)
  refine lv_aload_n hx hb d_L_law_711 rfl (lv_at hl 3 rfl) ?_
  refine lv_aload_n hx hb d_L_law_712 rfl (lv_at hl 5 rfl) ?_
  refine lv_iload hx hb d_L_law_713 (lv_at hl 1 rfl) ?_
  refine lv_iconst (v := 1) hx hb d_L_law_715 (by decide) ?_
  refine lv_iadd hx hb d_L_law_716 ?_
  refine lv_topi (fun x_5 ex_5 => ?_)
  obtain rfl : x_5 = nI (i + 1) := ex_5.trans (nI_add i 1)
  refine va_sld hx hb hX hbl hbA hS (x_inK (Nat.le_refl L) (by omega) (nI_pos (by omega)) (nI_ge (by omega) (by omega))) d_L_law_717 ?_
  refine lv_aload_n hx hb d_L_law_718 rfl (lv_at hl 5 rfl) ?_
  refine lv_iload hx hb d_L_law_719 (lv_at hl 1 rfl) ?_
  refine lv_iconst (v := 2) hx hb d_L_law_721 (by decide) ?_
  refine lv_iadd hx hb d_L_law_722 ?_
  refine lv_topi (fun x_6 ex_6 => ?_)
  obtain rfl : x_6 = nI (i + 2) := ex_6.trans (nI_add i 2)
  refine va_sld hx hb hX hbl hbA hS (x_inK (Nat.le_refl L) (by omega) (nI_pos (by omega)) (nI_ge (by omega) (by omega))) d_L_law_723 ?_
  refine lv_aload_n hx hb d_L_law_724 rfl (lv_at hl 5 rfl) ?_
  refine lv_iload hx hb d_L_law_725 (lv_at hl 1 rfl) ?_
  refine lv_iconst (v := 3) hx hb d_L_law_727 (by decide) ?_
  refine lv_iadd hx hb d_L_law_728 ?_
  refine lv_topi (fun x_7 ex_7 => ?_)
  obtain rfl : x_7 = nI (i + 3) := ex_7.trans (nI_add i 3)
  refine va_sld hx hb hX hbl hbA hS (x_inK (Nat.le_refl L) (by omega) (nI_pos (by omega)) (nI_ge (by omega) (by omega))) d_L_law_729 ?_
  refine lv_aload_n hx hb d_L_law_730 rfl (lv_at hl 5 rfl) ?_
  refine lv_iload hx hb d_L_law_731 (lv_at hl 1 rfl) ?_
  refine lv_iconst (v := 4) hx hb d_L_law_733 (by decide) ?_
  refine lv_iadd hx hb d_L_law_734 ?_
  refine lv_topi (fun x_8 ex_8 => ?_)
  obtain rfl : x_8 = nI (i + 4) := ex_8.trans (nI_add i 4)
  refine va_sld hx hb hX hbl hbA hS (x_inK (Nat.le_refl L) (by omega) (nI_pos (by omega)) (nI_ge (by omega) (by omega))) d_L_law_735 ?_
  have hPc : va_P (dC, dI) vwCl (mW qM cB2 cI cL cZ y) H := (hP.perm List.perm_append_comm).left
  have hDc : va_D (fun q : Nat => s.heap.size ≤ q) (mW qM cB2 cI cL cZ y) := (hD.perm List.perm_append_comm).left
  have hKc : va_K (dC, dI) vwCl (mT cB2 cI cL cZ) s := hK.sub [4, 5, 6, 7] rfl
  have hFc : ∀ q : Nat, va_A (mW qM cB2 cI cL cZ y) H.size q → (fun q : Nat => s.heap.size ≤ q) q := fr_free hD hS hA List.perm_append_comm
  have hS0 := hS
  refine va_calli (va_runV (As := [.int (xs (Int32.toNatClampNeg (nI (i + 1)))), .int (xs (Int32.toNatClampNeg (nI (i + 2)))), .int (xs (Int32.toNatClampNeg (nI (i + 3)))), .int (xs (Int32.toNatClampNeg (nI (i + 4))))]) (rest := []) ⟨hx, hb, hml, hown, hw0⟩ (u_common l dC dI H.size qM cB2 cI cL cZ y σ (xs (Int32.toNatClampNeg (nI (i + 1)))) (xs (Int32.toNatClampNeg (nI (i + 2)))) (xs (Int32.toNatClampNeg (nI (i + 3)))) (xs (Int32.toNatClampNeg (nI (i + 4)))) hsg hm) (cwV 4 hw0 (gd_V 660 661 662 161 729 rfl rfl rfl rfl rfl) rfl rfl rfl (by decide +kernel) ⟨by decide +kernel, by decide +kernel⟩) (prV_E hPc hKc hDc hN (va_recv hKc hPc (ci := 7) (q0 := 0) rfl rfl)) rfl rfl hl.1 rfl (lv_room (Nat.le_of_ble_eq_true rfl)) d_L_law_736 ⟨hcc, hss⟩) hS (fun q _ h => hFc q h) hFc (fun r2 u t H1 locs ht hvm hw2 hB hz1 hk1 hS => ?_)
  obtain ⟨y2, ⟨hm2, hth⟩, hP1, hK1, hD1⟩ := hB
  rw [ht] at hP1
  obtain ⟨hP, hD⟩ := fr_wld (W2 := ((([(qo, .inl (cO, 1, .inr (.inl (fo2))))] : va_W) ++ kW qK cB cD cR x2 ds2) ++ mW qM cB2 cI cL cZ y2)) (A := (fun q : Nat => s.heap.size ≤ q)) (fun q hq => hA q (Nat.le_trans hS0.1 hq)) hP hD List.perm_append_comm hk1 hP1 hD1 (kz List.perm_append_comm)
  clear hPc hDc hKc hFc hP1 hD1 hK1 hk1 hS0
  generalize H1 = H at hP hS ⊢
  refine W.widen (k := c0 + 2) (n := s0 + 264) (Nat.le_refl _) (Nat.le_refl _) ?_
  refine lv_istore (lv' := [(6, .int r2), (5, .int r), (4, .int (nI i)), (3, .ref qo), (2, .ref qM), (1, .ref qK), (0, .ref b)]) hx hb d_L_law_739 hl (by decide) rfl (fun ls hl => ?_)
  refine lv_goto (tgt := 814) hx hb d_L_law_741 (by decide) ?_
  rw [st_common] at hk2 hm2
  exact kk _ x2 ds2 y2 fo2 _ _ ls hsg hk2 hm2 hP hD hS (lv_sub hl [2, 3, 4, 5, 6] rfl)
set_option maxHeartbeats 4000000 in
set_option maxRecDepth 100000 in
theorem lw_c_15 {p : Program} {e : Env} {s : State} {m : MethodId} {below : List Frame} {meth : Method} {c : Code} (l : Launch) (hl9 : l.stackTraces = false) {b L : Nat} {xs : Nat → Int32} (hL : L ≤ 3072) (C0 : lw_At p s m meth c b L xs) {dC : Nat → ClassId} {dI : Nat → Nat → Nat} (qK qM qo : Nat) (cB cD cR cO cB2 cI cL cZ : ClassId) (fo : Nat → Int64) (x : KX) (ds : Nat → Option Dc) (y : MY) (σ : Sg) (i c0 s0 : Nat) (hi : i + 6 ≤ L) (hcc : c0 + 2 ≤ 601024) (hss : s0 + 264 ≤ 7293033) (hsg : sOk σ) (hk : kOk σ x ds) (hm : mOk σ y) (hN : nw_ok s) (hTw : tw_ok s) (hnc : nc_ok s) (hK : va_K (dC, dI) vwCl [(cO, .long), (cB, .byte), (cD, .object R_D), (cR, .object R_V), (cB2, .byte), (cI, .int), (cL, .short), (cZ, .boolean)] s) (H : Heap) (locs : List Loc) (hP : va_P (dC, dI) vwCl ((([(qo, .inl (cO, 1, .inr (.inl (fo))))] : va_W) ++ kW qK cB cD cR x ds) ++ mW qM cB2 cI cL cZ y) H) (hD : va_D (fun q : Nat => s.heap.size ≤ q) ((([(qo, .inl (cO, 1, .inr (.inl (fo))))] : va_W) ++ kW qK cB cD cR x ds) ++ mW qM cB2 cI cL cZ y)) (hS : va_S (fun q : Nat => s.heap.size ≤ q) s.heap H locs) (ls : Array Slot) (hl : lv_has ls 7 [(4, .int (nI i)), (3, .ref qo), (2, .ref qM), (1, .ref qK), (0, .ref b)]) (kk : ∀ (σ : Sg) (x : KX) (ds : Nat → Option Dc) (y : MY) (fo : Nat → Int64) (H : Heap) (locs : List Loc) (ls : Array Slot), sOk σ → kOk σ x ds → mOk σ y → va_P (dC, dI) vwCl ((([(qo, .inl (cO, 1, .inr (.inl (fo))))] : va_W) ++ kW qK cB cD cR x ds) ++ mW qM cB2 cI cL cZ y) H → va_D (fun q : Nat => s.heap.size ≤ q) ((([(qo, .inl (cO, 1, .inr (.inl (fo))))] : va_W) ++ kW qK cB cD cR x ds) ++ mW qM cB2 cI cL cZ y) → va_S (fun q : Nat => s.heap.size ≤ q) s.heap H locs → lv_has ls 7 [(4, .int (nI i)), (3, .ref qo), (2, .ref qM), (1, .ref qK), (0, .ref b)] → W p l e room_1 s m #[Value.ref b] below meth c H locs (c0 + 2) (s0 + 264) (lw_Z below #[Value.ref b] s) (F0 m 814 ls [])) : W p l e room_1 s m #[Value.ref b] below meth c H locs c0 s0 (lw_Z below #[Value.ref b] s) (F0 m 744 ls []) := by
  obtain ⟨hx, hb, hr, hml, hown, hts, hX, hbl, hlocks, hgv⟩ := id C0
  have hw0 : ∀ w ∈ w0, w.before #[Value.ref b] s = true := fun w h => hts w (w0_ok w h).1
  have hA : ∀ q : Nat, s.heap.size ≤ q → (fun q : Nat => s.heap.size ≤ q) q := fun _ h => h
  have hbA : ¬ (fun q : Nat => s.heap.size ≤ q) b := Nat.not_le.mpr hbl
  refine lv_aload_n hx hb d_L_law_744 rfl (lv_at hl 3 rfl) ?_
  refine lv_aload_n hx hb d_L_law_745 rfl (lv_at hl 1 rfl) ?_
  have hPc : va_P (dC, dI) vwCl (([(qo, .inl (cO, 1, .inr (.inl (fo))))] : va_W) ++ kW qK cB cD cR x ds) H := hP.left
  have hDc : va_D (fun q : Nat => s.heap.size ≤ q) (([(qo, .inl (cO, 1, .inr (.inl (fo))))] : va_W) ++ kW qK cB cD cR x ds) := hD.left
  have hKc : va_K (dC, dI) vwCl [(cO, .long), (cB, .byte), (cD, .object R_D), (cR, .object R_V)] s := hK.sub [0, 1, 2, 3] rfl
  have hFc : ∀ q : Nat, va_A (([(qo, .inl (cO, 1, .inr (.inl (fo))))] : va_W) ++ kW qK cB cD cR x ds) H.size q → (fun q : Nat => s.heap.size ≤ q) q := fr_free hD hS hA (List.Perm.refl _)
  have hS0 := hS
  refine va_calli (va_runSW (As := [.ref qK, .ref qo]) (rest := []) ⟨hx, hb, hml, hown, hw0⟩ (w_freeBlocks l hl9 dC dI H.size qK qo cB cD cR cO fo x ds σ hsg hk) (csw_of 2 hw0 710 603 604 507 rfl rfl rfl rfl rfl rfl (by decide +kernel) ⟨by decide +kernel, by decide +kernel⟩) (prS_T hPc hKc hDc hN hTw (fun a ha => hS.2.1 a ha (Nat.not_le.mpr ha))) rfl rfl hl.1 rfl (lv_room (Nat.le_of_ble_eq_true rfl)) d_L_law_746 ⟨hcc, hss⟩) hS (fun q _ h => hFc q h) hFc (fun r u t H1 locs ht hvm hw hB hz1 hk1 hS => ?_)
  obtain ⟨fo2, x2, ds2, ⟨hk2, hout⟩, hP1, hK1, hD1⟩ := hB
  rw [ht] at hP1
  obtain ⟨hP, hD⟩ := fr_wld (W2 := ((([(qo, .inl (cO, 1, .inr (.inl (fo2))))] : va_W) ++ kW qK cB cD cR x2 ds2) ++ mW qM cB2 cI cL cZ y)) (A := (fun q : Nat => s.heap.size ≤ q)) (fun q hq => hA q (Nat.le_trans hS0.1 hq)) hP hD (List.Perm.refl _) hk1 hP1 hD1 (kz (List.Perm.refl _))
  clear hPc hDc hKc hFc hP1 hD1 hK1 hk1 hS0
  generalize H1 = H at hP hS ⊢
  refine lv_istore (lv' := [(5, .int r), (4, .int (nI i)), (3, .ref qo), (2, .ref qM), (1, .ref qK), (0, .ref b)]) hx hb d_L_law_749 hl (by decide) rfl (fun ls hl => ?_)
  refine lv_aload_n hx hb d_L_law_751 rfl (lv_at hl 3 rfl) ?_
  have hPc : va_P (dC, dI) vwCl (mW qM cB2 cI cL cZ y) H := (hP.perm List.perm_append_comm).left
  have hDc : va_D (fun q : Nat => s.heap.size ≤ q) (mW qM cB2 cI cL cZ y) := (hD.perm List.perm_append_comm).left
  have hKc : va_K (dC, dI) vwCl (mT cB2 cI cL cZ) s := hK.sub [4, 5, 6, 7] rfl
  have hFc : ∀ q : Nat, va_A (mW qM cB2 cI cL cZ y) H.size q → (fun q : Nat => s.heap.size ≤ q) q := fr_free hD hS hA List.perm_append_comm
  have hS0 := hS
  refine va_calli (va_runV (As := []) (rest := []) ⟨hx, hb, hml, hown, hw0⟩ (u_freeBlocks l dC dI H.size qM cB2 cI cL cZ y σ hsg hm) (cwV 0 hw0 (gd_V 663 664 665 161 730 rfl rfl rfl rfl rfl) rfl rfl rfl (by decide +kernel) ⟨by decide +kernel, by decide +kernel⟩) (prV_E hPc hKc hDc hN (va_recv hKc hPc (ci := 7) (q0 := 0) rfl rfl)) rfl rfl hl.1 rfl (lv_room (Nat.le_of_ble_eq_true rfl)) d_L_law_752 ⟨hcc, hss⟩) hS (fun q _ h => hFc q h) hFc (fun r2 u t H1 locs ht hvm hw2 hB hz1 hk1 hS => ?_)
  obtain ⟨y2, ⟨hm2, hth⟩, hP1, hK1, hD1⟩ := hB
  rw [ht] at hP1
  obtain ⟨hP, hD⟩ := fr_wld (W2 := ((([(qo, .inl (cO, 1, .inr (.inl (fo2))))] : va_W) ++ kW qK cB cD cR x2 ds2) ++ mW qM cB2 cI cL cZ y2)) (A := (fun q : Nat => s.heap.size ≤ q)) (fun q hq => hA q (Nat.le_trans hS0.1 hq)) hP hD List.perm_append_comm hk1 hP1 hD1 (kz List.perm_append_comm)
  clear hPc hDc hKc hFc hP1 hD1 hK1 hk1 hS0
  generalize H1 = H at hP hS ⊢
  refine W.widen (k := c0 + 2) (n := s0 + 264) (Nat.le_refl _) (Nat.le_refl _) ?_
  refine lv_istore (lv' := [(6, .int r2), (5, .int r), (4, .int (nI i)), (3, .ref qo), (2, .ref qM), (1, .ref qK), (0, .ref b)]) hx hb d_L_law_755 hl (by decide) rfl (fun ls hl => ?_)
  refine lv_goto (tgt := 814) hx hb d_L_law_757 (by decide) ?_
  rw [st_free] at hk2 hm2
  exact kk _ x2 ds2 y2 fo2 _ _ ls hsg hk2 hm2 hP hD hS (lv_sub hl [2, 3, 4, 5, 6] rfl)
