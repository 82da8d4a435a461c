set_option maxHeartbeats 4000000 in
set_option maxRecDepth 100000 in
theorem lw_c_16 {p : Program} {e : Env} {s : State} {m : MethodId} {below : List Frame} {meth : Method} {c : Code} (l : Launch) (hl9 : l.stackTraces = false) {b L : Nat} {xs : Nat → Int32} (hL : L ≤ 3072) (C0 : lw_At p s m meth c b L xs) {dC : Nat → ClassId} {dI : Nat → Nat → Nat} (qK qM qo : Nat) (cB cD cR cO cB2 cI cL cZ : ClassId) (fo : Nat → Int64) (x : KX) (ds : Nat → Option Dc) (y : MY) (σ : Sg) (i c0 s0 : Nat) (hi : i + 6 ≤ L) (hcc : c0 + 2 ≤ 601024) (hss : s0 + 264 ≤ 7293033) (hsg : sOk σ) (hk : kOk σ x ds) (hm : mOk σ y) (hN : nw_ok s) (hTw : tw_ok s) (hnc : nc_ok s) (hK : va_K (dC, dI) vwCl [(cO, .long), (cB, .byte), (cD, .object R_D), (cR, .object R_V), (cB2, .byte), (cI, .int), (cL, .short), (cZ, .boolean)] s) (H : Heap) (locs : List Loc) (hP : va_P (dC, dI) vwCl ((([(qo, .inl (cO, 1, .inr (.inl (fo))))] : va_W) ++ kW qK cB cD cR x ds) ++ mW qM cB2 cI cL cZ y) H) (hD : va_D (fun q : Nat => s.heap.size ≤ q) ((([(qo, .inl (cO, 1, .inr (.inl (fo))))] : va_W) ++ kW qK cB cD cR x ds) ++ mW qM cB2 cI cL cZ y)) (hS : va_S (fun q : Nat => s.heap.size ≤ q) s.heap H locs) (ls : Array Slot) (hl : lv_has ls 7 [(4, .int (nI i)), (3, .ref qo), (2, .ref qM), (1, .ref qK), (0, .ref b)]) (kk : ∀ (σ : Sg) (x : KX) (ds : Nat → Option Dc) (y : MY) (fo : Nat → Int64) (H : Heap) (locs : List Loc) (ls : Array Slot), sOk σ → kOk σ x ds → mOk σ y → va_P (dC, dI) vwCl ((([(qo, .inl (cO, 1, .inr (.inl (fo))))] : va_W) ++ kW qK cB cD cR x ds) ++ mW qM cB2 cI cL cZ y) H → va_D (fun q : Nat => s.heap.size ≤ q) ((([(qo, .inl (cO, 1, .inr (.inl (fo))))] : va_W) ++ kW qK cB cD cR x ds) ++ mW qM cB2 cI cL cZ y) → va_S (fun q : Nat => s.heap.size ≤ q) s.heap H locs → lv_has ls 7 [(4, .int (nI i)), (3, .ref qo), (2, .ref qM), (1, .ref qK), (0, .ref b)] → W p l e room_1 s m #[Value.ref b] below meth c H locs (c0 + 2) (s0 + 264) (lw_Z below #[Value.ref b] s) (F0 m 814 ls [])) : W p l e room_1 s m #[Value.ref b] below meth c H locs c0 s0 (lw_Z below #[Value.ref b] s) (F0 m 760 ls []) := by
  obtain ⟨hx, hb, hr, hml, hown, hts, hX, hbl, hlocks, hgv⟩ := id C0
  have hw0 : ∀ w ∈ w0, w.before #[Value.ref b] s = true := fun w h => hts w (w0_ok w h).1
  have hA : ∀ q : Nat, s.heap.size ≤ q → (fun q : Nat => s.heap.size ≤ q) q := fun _ h => h
  have hbA : ¬ (fun q : Nat => s.heap.size ≤ q) b := Nat.not_le.mpr hbl
  refine lv_aload_n hx hb d_L_law_760 rfl (lv_at hl 3 rfl) ?_
  refine lv_aload_n hx hb d_L_law_761 rfl (lv_at hl 4 rfl) ?_
  refine lv_iload hx hb d_L_law_762 (lv_at hl 0 rfl) ?_
  refine lv_iconst (v := 1) hx hb d_L_law_764 (by decide) ?_
  refine lv_iadd hx hb d_L_law_765 ?_
  refine lv_topi (fun x_1 ex_1 => ?_)
  obtain rfl : x_1 = nI (i + 1) := ex_1.trans (nI_add i 1)
  refine va_sld hx hb hX hbl hbA hS (x_inK (Nat.le_refl L) (by omega) (nI_pos (by omega)) (nI_ge (by omega) (by omega))) d_L_law_766 ?_
  refine lv_aload_n hx hb d_L_law_767 rfl (lv_at hl 1 rfl) ?_
  have hPc : va_P (dC, dI) vwCl (([(qo, .inl (cO, 1, .inr (.inl (fo))))] : va_W) ++ kW qK cB cD cR x ds) H := hP.left
  have hDc : va_D (fun q : Nat => s.heap.size ≤ q) (([(qo, .inl (cO, 1, .inr (.inl (fo))))] : va_W) ++ kW qK cB cD cR x ds) := hD.left
  have hKc : va_K (dC, dI) vwCl [(cO, .long), (cB, .byte), (cD, .object R_D), (cR, .object R_V)] s := hK.sub [0, 1, 2, 3] rfl
  have hFc : ∀ q : Nat, va_A (([(qo, .inl (cO, 1, .inr (.inl (fo))))] : va_W) ++ kW qK cB cD cR x ds) H.size q → (fun q : Nat => s.heap.size ≤ q) q := fr_free hD hS hA (List.Perm.refl _)
  have hS0 := hS
  refine va_calli (va_runSW (As := [.ref qK, .int (xs (Int32.toNatClampNeg (nI (i + 1)))), .ref qo]) (rest := []) ⟨hx, hb, hml, hown, hw0⟩ (w_cutAfter l hl9 dC dI H.size qK qo cB cD cR cO fo x ds σ (xs (Int32.toNatClampNeg (nI (i + 1)))) hsg hk) (csw_of 3 hw0 712 608 609 507 rfl rfl rfl rfl rfl rfl (by decide +kernel) ⟨by decide +kernel, by decide +kernel⟩) (prS_T hPc hKc hDc hN hTw (fun a ha => hS.2.1 a ha (Nat.not_le.mpr ha))) rfl rfl hl.1 rfl (lv_room (Nat.le_of_ble_eq_true rfl)) d_L_law_768 ⟨hcc, hss⟩) hS (fun q _ h => hFc q h) hFc (fun r u t H1 locs ht hvm hw hB hz1 hk1 hS => ?_)
  obtain ⟨fo2, x2, ds2, ⟨hk2, hout⟩, hP1, hK1, hD1⟩ := hB
  rw [ht] at hP1
  obtain ⟨hP, hD⟩ := fr_wld (W2 := ((([(qo, .inl (cO, 1, .inr (.inl (fo2))))] : va_W) ++ kW qK cB cD cR x2 ds2) ++ mW qM cB2 cI cL cZ y)) (A := (fun q : Nat => s.heap.size ≤ q)) (fun q hq => hA q (Nat.le_trans hS0.1 hq)) hP hD (List.Perm.refl _) hk1 hP1 hD1 (kz (List.Perm.refl _))
  clear hPc hDc hKc hFc hP1 hD1 hK1 hk1 hS0
  generalize H1 = H at hP hS ⊢
  refine lv_istore (lv' := [(5, .int r), (4, .int (nI i)), (3, .ref qo), (2, .ref qM), (1, .ref qK), (0, .ref b)]) hx hb d_L_law_771 hl (by decide) rfl (fun ls hl => ?_)
  refine lv_aload_n hx hb d_L_law_773 rfl (lv_at hl 3 rfl) ?_
  refine lv_aload_n hx hb d_L_law_774 rfl (lv_at hl 5 rfl) ?_
  refine lv_iload hx hb d_L_law_775 (lv_at hl 1 rfl) ?_
  refine lv_iconst (v := 1) hx hb d_L_law_777 (by decide) ?_
  refine lv_iadd hx hb d_L_law_778 ?_
  refine lv_topi (fun x_2 ex_2 => ?_)
  obtain rfl : x_2 = nI (i + 1) := ex_2.trans (nI_add i 1)
  refine va_sld hx hb hX hbl hbA hS (x_inK (Nat.le_refl L) (by omega) (nI_pos (by omega)) (nI_ge (by omega) (by omega))) d_L_law_779 ?_
  have hPc : va_P (dC, dI) vwCl (mW qM cB2 cI cL cZ y) H := (hP.perm List.perm_append_comm).left
  have hDc : va_D (fun q : Nat => s.heap.size ≤ q) (mW qM cB2 cI cL cZ y) := (hD.perm List.perm_append_comm).left
  have hKc : va_K (dC, dI) vwCl (mT cB2 cI cL cZ) s := hK.sub [4, 5, 6, 7] rfl
  have hFc : ∀ q : Nat, va_A (mW qM cB2 cI cL cZ y) H.size q → (fun q : Nat => s.heap.size ≤ q) q := fr_free hD hS hA List.perm_append_comm
  have hS0 := hS
  refine va_calli (va_runV (As := [.int (xs (Int32.toNatClampNeg (nI (i + 1))))]) (rest := []) ⟨hx, hb, hml, hown, hw0⟩ (u_cutAfter l dC dI H.size qM cB2 cI cL cZ y σ (xs (Int32.toNatClampNeg (nI (i + 1)))) hsg hm) (cwV 1 hw0 (gd_V 666 667 668 161 731 rfl rfl rfl rfl rfl) rfl rfl rfl (by decide +kernel) ⟨by decide +kernel, by decide +kernel⟩) (prV_E hPc hKc hDc hN (va_recv hKc hPc (ci := 7) (q0 := 0) rfl rfl)) rfl rfl hl.1 rfl (lv_room (Nat.le_of_ble_eq_true rfl)) d_L_law_780 ⟨hcc, hss⟩) hS (fun q _ h => hFc q h) hFc (fun r2 u t H1 locs ht hvm hw2 hB hz1 hk1 hS => ?_)
  obtain ⟨y2, ⟨hm2, hth⟩, hP1, hK1, hD1⟩ := hB
  rw [ht] at hP1
  obtain ⟨hP, hD⟩ := fr_wld (W2 := ((([(qo, .inl (cO, 1, .inr (.inl (fo2))))] : va_W) ++ kW qK cB cD cR x2 ds2) ++ mW qM cB2 cI cL cZ y2)) (A := (fun q : Nat => s.heap.size ≤ q)) (fun q hq => hA q (Nat.le_trans hS0.1 hq)) hP hD List.perm_append_comm hk1 hP1 hD1 (kz List.perm_append_comm)
  clear hPc hDc hKc hFc hP1 hD1 hK1 hk1 hS0
  generalize H1 = H at hP hS ⊢
  refine W.widen (k := c0 + 2) (n := s0 + 264) (Nat.le_refl _) (Nat.le_refl _) ?_
  refine lv_istore (lv' := [(6, .int r2), (5, .int r), (4, .int (nI i)), (3, .ref qo), (2, .ref qM), (1, .ref qK), (0, .ref b)]) hx hb d_L_law_783 hl (by decide) rfl (fun ls hl => ?_)
  refine lv_goto (tgt := 814) hx hb d_L_law_785 (by decide) ?_
  exact kk _ x2 ds2 y2 fo2 _ _ ls (sOk_of (sW_cut (sW_of hsg)) hk2) hk2 hm2 hP hD hS (lv_sub hl [2, 3, 4, 5, 6] rfl)
set_option maxHeartbeats 4000000 in
set_option maxRecDepth 100000 in
theorem lw_c_17 {p : Program} {e : Env} {s : State} {m : MethodId} {below : List Frame} {meth : Method} {c : Code} (l : Launch) (hl9 : l.stackTraces = false) {b L : Nat} {xs : Nat → Int32} (hL : L ≤ 3072) (C0 : lw_At p s m meth c b L xs) {dC : Nat → ClassId} {dI : Nat → Nat → Nat} (qK qM qo : Nat) (cB cD cR cO cB2 cI cL cZ : ClassId) (fo : Nat → Int64) (x : KX) (ds : Nat → Option Dc) (y : MY) (σ : Sg) (i c0 s0 : Nat) (hi : i + 6 ≤ L) (hcc : c0 + 2 ≤ 601024) (hss : s0 + 264 ≤ 7293033) (hsg : sOk σ) (hk : kOk σ x ds) (hm : mOk σ y) (hN : nw_ok s) (hTw : tw_ok s) (hnc : nc_ok s) (hK : va_K (dC, dI) vwCl [(cO, .long), (cB, .byte), (cD, .object R_D), (cR, .object R_V), (cB2, .byte), (cI, .int), (cL, .short), (cZ, .boolean)] s) (H : Heap) (locs : List Loc) (hP : va_P (dC, dI) vwCl ((([(qo, .inl (cO, 1, .inr (.inl (fo))))] : va_W) ++ kW qK cB cD cR x ds) ++ mW qM cB2 cI cL cZ y) H) (hD : va_D (fun q : Nat => s.heap.size ≤ q) ((([(qo, .inl (cO, 1, .inr (.inl (fo))))] : va_W) ++ kW qK cB cD cR x ds) ++ mW qM cB2 cI cL cZ y)) (hS : va_S (fun q : Nat => s.heap.size ≤ q) s.heap H locs) (ls : Array Slot) (hl : lv_has ls 7 [(4, .int (nI i)), (3, .ref qo), (2, .ref qM), (1, .ref qK), (0, .ref b)]) (kk : ∀ (σ : Sg) (x : KX) (ds : Nat → Option Dc) (y : MY) (fo : Nat → Int64) (H : Heap) (locs : List Loc) (ls : Array Slot), sOk σ → kOk σ x ds → mOk σ y → va_P (dC, dI) vwCl ((([(qo, .inl (cO, 1, .inr (.inl (fo))))] : va_W) ++ kW qK cB cD cR x ds) ++ mW qM cB2 cI cL cZ y) H → va_D (fun q : Nat => s.heap.size ≤ q) ((([(qo, .inl (cO, 1, .inr (.inl (fo))))] : va_W) ++ kW qK cB cD cR x ds) ++ mW qM cB2 cI cL cZ y) → va_S (fun q : Nat => s.heap.size ≤ q) s.heap H locs → lv_has ls 7 [(4, .int (nI i)), (3, .ref qo), (2, .ref qM), (1, .ref qK), (0, .ref b)] → W p l e room_1 s m #[Value.ref b] below meth c H locs (c0 + 2) (s0 + 264) (lw_Z below #[Value.ref b] s) (F0 m 814 ls [])) : W p l e room_1 s m #[Value.ref b] below meth c H locs c0 s0 (lw_Z below #[Value.ref b] s) (F0 m 788 ls []) := by
  obtain ⟨hx, hb, hr, hml, hown, hts, hX, hbl, hlocks, hgv⟩ := id C0
  have hw0 : ∀ w ∈ w0, w.before #[Value.ref b] s = true := fun w h => hts w (w0_ok w h).1
  have hA : ∀ q : Nat, s.heap.size ≤ q → (fun q : Nat => s.heap.size ≤ q) q := fun _ h => h
  have hbA : ¬ (fun q : Nat => s.heap.size ≤ q) b := Nat.not_le.mpr hbl
  refine lv_aload_n hx hb d_L_law_788 rfl (lv_at hl 3 rfl) ?_
  have hPc : va_P (dC, dI) vwCl (kW qK cB cD cR x ds) H := (hP.perm (kpm _ _ _)).left
  have hDc : va_D (fun q : Nat => s.heap.size ≤ q) (kW qK cB cD cR x ds) := (hD.perm (kpm _ _ _)).left
  have hKc : va_K (dC, dI) vwCl (kT cB cD cR) s := hK.sub [1, 2, 3] rfl
  have hFc : ∀ q : Nat, va_A (kW qK cB cD cR x ds) H.size q → (fun q : Nat => s.heap.size ≤ q) q := fr_free hD hS hA (kpm _ _ _)
  have hS0 := hS
  refine vx_calli (vx_runV (As := []) (rest := []) ⟨hx, hb, hml, hown, hw0⟩ (kMet.out (k_start l hl9 dC dI H.size qK cB cD cR x ds σ hsg hk)) (cwV 0 hw0 (gd_V 512 513 514 226 676 rfl rfl rfl rfl rfl) rfl rfl rfl (by decide +kernel) ⟨by decide +kernel, by decide +kernel⟩) (prV_T hPc hKc hDc hN hTw (fun a ha => hS.2.1 a ha (Nat.not_le.mpr ha)) (va_recv hKc hPc (ci := 0) (q0 := 0) rfl rfl)) rfl rfl hl.1 rfl (lv_room (Nat.le_of_ble_eq_true rfl)) d_L_law_789 ⟨hcc, hss⟩) hS (fun q _ h => hFc q h) hFc (fun q _ h => hFc q h) (fun E ce q9 u t H1 locs ht hvm hw hB hz1 hk1 hS hce hcv hcl => absurd cd_start hB.1.1) (fun r u t H1 locs ht hvm hw hB hz1 hk1 hS => ?_)
  obtain ⟨hc0, hr0⟩ : (sStart σ).2.1 = 0 ∧ r = (sStart σ).2.2 := hw
  obtain ⟨x2, ds2, hk2, hP1, hK1, hD1⟩ := hB
  rw [ht] at hP1
  obtain ⟨hP, hD⟩ := fr_wld (W2 := ((([(qo, .inl (cO, 1, .inr (.inl (fo))))] : va_W) ++ kW qK cB cD cR x2 ds2) ++ mW qM cB2 cI cL cZ y)) (A := (fun q : Nat => s.heap.size ≤ q)) (fun q hq => hA q (Nat.le_trans hS0.1 hq)) hP hD (kpm _ _ _) hk1 hP1 hD1 (kz (kpm _ _ _))
  clear hPc hDc hKc hFc hP1 hD1 hK1 hk1 hS0
  generalize H1 = H at hP hS ⊢
  refine lv_pop hx hb d_L_law_792 rfl ?_
  refine lv_aload_n hx hb d_L_law_793 rfl (lv_at hl 2 rfl) ?_
  have hPc : va_P (dC, dI) vwCl (mW qM cB2 cI cL cZ y) H := (hP.perm List.perm_append_comm).left
  have hDc : va_D (fun q : Nat => s.heap.size ≤ q) (mW qM cB2 cI cL cZ y) := (hD.perm List.perm_append_comm).left
  have hKc : va_K (dC, dI) vwCl (mT cB2 cI cL cZ) s := hK.sub [4, 5, 6, 7] rfl
  have hFc : ∀ q : Nat, va_A (mW qM cB2 cI cL cZ y) H.size q → (fun q : Nat => s.heap.size ≤ q) q := fr_free hD hS hA List.perm_append_comm
  have hS0 := hS
  refine va_calli (va_runV (As := []) (rest := []) ⟨hx, hb, hml, hown, hw0⟩ (u_start l dC dI H.size qM cB2 cI cL cZ y σ hsg hm) (cwV 0 hw0 (gd_V 669 670 671 161 732 rfl rfl rfl rfl rfl) rfl rfl rfl (by decide +kernel) ⟨by decide +kernel, by decide +kernel⟩) (prV_E hPc hKc hDc hN (va_recv hKc hPc (ci := 7) (q0 := 0) rfl rfl)) rfl rfl hl.1 rfl (lv_room (Nat.le_of_ble_eq_true rfl)) d_L_law_794 ⟨hcc, hss⟩) hS (fun q _ h => hFc q h) hFc (fun r2 u t H1 locs ht hvm hw2 hB hz1 hk1 hS => ?_)
  obtain ⟨y2, ⟨hm2, hth⟩, hP1, hK1, hD1⟩ := hB
  rw [ht] at hP1
  obtain ⟨hP, hD⟩ := fr_wld (W2 := ((([(qo, .inl (cO, 1, .inr (.inl (fo))))] : va_W) ++ kW qK cB cD cR x2 ds2) ++ mW qM cB2 cI cL cZ y2)) (A := (fun q : Nat => s.heap.size ≤ q)) (fun q hq => hA q (Nat.le_trans hS0.1 hq)) hP hD List.perm_append_comm hk1 hP1 hD1 (kz List.perm_append_comm)
  clear hPc hDc hKc hFc hP1 hD1 hK1 hk1 hS0
  generalize H1 = H at hP hS ⊢
  refine W.widen (k := c0 + 2) (n := s0 + 264) (Nat.le_refl _) (Nat.le_refl _) ?_
  refine lv_pop hx hb d_L_law_797 rfl ?_
  refine lv_goto (tgt := 814) hx hb d_L_law_798 (by decide) ?_
  exact kk _ x2 ds2 y2 fo _ _ ls (sOk_of (sW_start (sW_of hsg)) hk2) hk2 hm2 hP hD hS (lv_sub hl [0, 1, 2, 3, 4] rfl)
set_option maxHeartbeats 4000000 in
set_option maxRecDepth 100000 in
theorem lw_c_18 {p : Program} {e : Env} {s : State} {m : MethodId} {below : List Frame} {meth : Method} {c : Code} (l : Launch) (hl9 : l.stackTraces = false) {b L : Nat} {xs : Nat → Int32} (hL : L ≤ 3072) (C0 : lw_At p s m meth c b L xs) {dC : Nat → ClassId} {dI : Nat → Nat → Nat} (qK qM qo : Nat) (cB cD cR cO cB2 cI cL cZ : ClassId) (fo : Nat → Int64) (x : KX) (ds : Nat → Option Dc) (y : MY) (σ : Sg) (i c0 s0 : Nat) (hi : i + 6 ≤ L) (hcc : c0 + 2 ≤ 601024) (hss : s0 + 264 ≤ 7293033) (hsg : sOk σ) (hk : kOk σ x ds) (hm : mOk σ y) (hN : nw_ok s) (hTw : tw_ok s) (hnc : nc_ok s) (hK : va_K (dC, dI) vwCl [(cO, .long), (cB, .byte), (cD, .object R_D), (cR, .object R_V), (cB2, .byte), (cI, .int), (cL, .short), (cZ, .boolean)] s) (H : Heap) (locs : List Loc) (hP : va_P (dC, dI) vwCl ((([(qo, .inl (cO, 1, .inr (.inl (fo))))] : va_W) ++ kW qK cB cD cR x ds) ++ mW qM cB2 cI cL cZ y) H) (hD : va_D (fun q : Nat => s.heap.size ≤ q) ((([(qo, .inl (cO, 1, .inr (.inl (fo))))] : va_W) ++ kW qK cB cD cR x ds) ++ mW qM cB2 cI cL cZ y)) (hS : va_S (fun q : Nat => s.heap.size ≤ q) s.heap H locs) (ls : Array Slot) (hl : lv_has ls 7 [(4, .int (nI i)), (3, .ref qo), (2, .ref qM), (1, .ref qK), (0, .ref b)]) (kk : ∀ (σ : Sg) (x : KX) (ds : Nat → Option Dc) (y : MY) (fo : Nat → Int64) (H : Heap) (locs : List Loc) (ls : Array Slot), sOk σ → kOk σ x ds → mOk σ y → va_P (dC, dI) vwCl ((([(qo, .inl (cO, 1, .inr (.inl (fo))))] : va_W) ++ kW qK cB cD cR x ds) ++ mW qM cB2 cI cL cZ y) H → va_D (fun q : Nat => s.heap.size ≤ q) ((([(qo, .inl (cO, 1, .inr (.inl (fo))))] : va_W) ++ kW qK cB cD cR x ds) ++ mW qM cB2 cI cL cZ y) → va_S (fun q : Nat => s.heap.size ≤ q) s.heap H locs → lv_has ls 7 [(4, .int (nI i)), (3, .ref qo), (2, .ref qM), (1, .ref qK), (0, .ref b)] → W p l e room_1 s m #[Value.ref b] below meth c H locs (c0 + 2) (s0 + 264) (lw_Z below #[Value.ref b] s) (F0 m 814 ls [])) : W p l e room_1 s m #[Value.ref b] below meth c H locs c0 s0 (lw_Z below #[Value.ref b] s) (F0 m 801 ls []) := by
  obtain ⟨hx, hb, hr, hml, hown, hts, hX, hbl, hlocks, hgv⟩ := id C0
  have hw0 : ∀ w ∈ w0, w.before #[Value.ref b] s = true := fun w h => hts w (w0_ok w h).1
  have hA : ∀ q : Nat, s.heap.size ≤ q → (fun q : Nat => s.heap.size ≤ q) q := fun _ h => h
  have hbA : ¬ (fun q : Nat => s.heap.size ≤ q) b := Nat.not_le.mpr hbl
  refine lv_aload_n hx hb d_L_law_801 rfl (lv_at hl 3 rfl) ?_
  have hPc : va_P (dC, dI) vwCl (kW qK cB cD cR x ds) H := (hP.perm (kpm _ _ _)).left
  have hDc : va_D (fun q : Nat => s.heap.size ≤ q) (kW qK cB cD cR x ds) := (hD.perm (kpm _ _ _)).left
  have hKc : va_K (dC, dI) vwCl (kT cB cD cR) s := hK.sub [1, 2, 3] rfl
  have hFc : ∀ q : Nat, va_A (kW qK cB cD cR x ds) H.size q → (fun q : Nat => s.heap.size ≤ q) q := fr_free hD hS hA (kpm _ _ _)
  have hS0 := hS
  refine vx_calli (vx_runV (As := []) (rest := []) ⟨hx, hb, hml, hown, hw0⟩ (kMet.out (k_isDown l hl9 dC dI H.size qK cB cD cR x ds σ hsg hk)) (cwV 0 hw0 (gd_V 515 516 517 226 677 rfl rfl rfl rfl rfl) rfl rfl rfl (by decide +kernel) ⟨by decide +kernel, by decide +kernel⟩) (prV_T hPc hKc hDc hN hTw (fun a ha => hS.2.1 a ha (Nat.not_le.mpr ha)) (va_recv hKc hPc (ci := 0) (q0 := 0) rfl rfl)) rfl rfl hl.1 rfl (lv_room (Nat.le_of_ble_eq_true rfl)) d_L_law_802 ⟨hcc, hss⟩) hS (fun q _ h => hFc q h) hFc (fun q _ h => hFc q h) (fun E ce q9 u t H1 locs ht hvm hw hB hz1 hk1 hS hce hcv hcl => absurd cd_isDown hB.1.1) (fun r u t H1 locs ht hvm hw hB hz1 hk1 hS => ?_)
  obtain ⟨hc0, hr0⟩ : (sIsDown σ).2.1 = 0 ∧ r = (sIsDown σ).2.2 := hw
  obtain ⟨x2, ds2, hk2, hP1, hK1, hD1⟩ := hB
  rw [ht] at hP1
  obtain ⟨hP, hD⟩ := fr_wld (W2 := ((([(qo, .inl (cO, 1, .inr (.inl (fo))))] : va_W) ++ kW qK cB cD cR x2 ds2) ++ mW qM cB2 cI cL cZ y)) (A := (fun q : Nat => s.heap.size ≤ q)) (fun q hq => hA q (Nat.le_trans hS0.1 hq)) hP hD (kpm _ _ _) hk1 hP1 hD1 (kz (kpm _ _ _))
  clear hPc hDc hKc hFc hP1 hD1 hK1 hk1 hS0
  generalize H1 = H at hP hS ⊢
  refine lv_aload_n hx hb d_L_law_805 rfl (lv_at hl 2 rfl) ?_
  have hPc : va_P (dC, dI) vwCl (mW qM cB2 cI cL cZ y) H := (hP.perm List.perm_append_comm).left
  have hDc : va_D (fun q : Nat => s.heap.size ≤ q) (mW qM cB2 cI cL cZ y) := (hD.perm List.perm_append_comm).left
  have hKc : va_K (dC, dI) vwCl (mT cB2 cI cL cZ) s := hK.sub [4, 5, 6, 7] rfl
  have hFc : ∀ q : Nat, va_A (mW qM cB2 cI cL cZ y) H.size q → (fun q : Nat => s.heap.size ≤ q) q := fr_free hD hS hA List.perm_append_comm
  have hS0 := hS
  refine va_calli (va_runV (As := []) (rest := [.int r]) ⟨hx, hb, hml, hown, hw0⟩ (u_isDown l dC dI H.size qM cB2 cI cL cZ y σ hsg hm) (cwV 0 hw0 (gd_V 672 673 674 161 733 rfl rfl rfl rfl rfl) rfl rfl rfl (by decide +kernel) ⟨by decide +kernel, by decide +kernel⟩) (prV_E hPc hKc hDc hN (va_recv hKc hPc (ci := 7) (q0 := 0) rfl rfl)) rfl rfl hl.1 rfl (lv_room (Nat.le_of_ble_eq_true rfl)) d_L_law_806 ⟨hcc, hss⟩) hS (fun q _ h => hFc q h) hFc (fun r2 u t H1 locs ht hvm hw2 hB hz1 hk1 hS => ?_)
  obtain ⟨y2, ⟨hm2, hth⟩, hP1, hK1, hD1⟩ := hB
  rw [ht] at hP1
  obtain ⟨hP, hD⟩ := fr_wld (W2 := ((([(qo, .inl (cO, 1, .inr (.inl (fo))))] : va_W) ++ kW qK cB cD cR x2 ds2) ++ mW qM cB2 cI cL cZ y2)) (A := (fun q : Nat => s.heap.size ≤ q)) (fun q hq => hA q (Nat.le_trans hS0.1 hq)) hP hD List.perm_append_comm hk1 hP1 hD1 (kz List.perm_append_comm)
  clear hPc hDc hKc hFc hP1 hD1 hK1 hk1 hS0
  generalize H1 = H at hP hS ⊢
  refine W.widen (k := c0 + 2) (n := s0 + 264) (Nat.le_refl _) (Nat.le_refl _) ?_
  refine lv_icmp_eq (tgt := 814) hx hb d_L_law_809 (by decide) (fun c_1 => ?_) (fun c_1 => absurd (hr0.trans (hw2 rfl).symm) c_1)
  exact kk _ x2 ds2 y2 fo _ _ ls hsg hk2 hm2 hP hD hS (lv_sub hl [0, 1, 2, 3, 4] rfl)
