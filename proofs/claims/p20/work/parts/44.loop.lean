set_option maxHeartbeats 8000000 in
set_option maxRecDepth 100000 in
theorem lw_loop {p : Program} {e : Env} {s : State} {m : MethodId} {below : List Frame} {meth : Method} {c : Code} (l : Launch) (hl9 : l.stackTraces = false) {b L : Nat} {xs : Nat → Int32} (hL : L ≤ 3072) (C0 : lw_At p s m meth c b L xs) {dC : Nat → ClassId} {dI : Nat → Nat → Nat} (qK qM qo : Nat) (cB cD cR cO cB2 cI cL cZ : ClassId) (hN : nw_ok s) (hTw : tw_ok s) (hnc : nc_ok s) (hK : va_K (dC, dI) vwCl [(cO, .long), (cB, .byte), (cD, .object R_D), (cR, .object R_V), (cB2, .byte), (cI, .int), (cL, .short), (cZ, .boolean)] s) : ∀ (n j : Nat), 513 ≤ j + n → 6 * j ≤ L → ∀ (σ : Sg) (x : KX) (ds : Nat → Option Dc) (y : MY) (fo : Nat → Int64) (H : Heap) (locs : List Loc) (ls : Array Slot), sOk σ → kOk σ x ds → mOk σ y → va_P (dC, dI) vwCl ((([(qo, .inl (cO, 1, .inr (.inl (fo))))] : va_W) ++ kW qK cB cD cR x ds) ++ mW qM cB2 cI cL cZ y) H → va_D (fun q : Nat => s.heap.size ≤ q) ((([(qo, .inl (cO, 1, .inr (.inl (fo))))] : va_W) ++ kW qK cB cD cR x ds) ++ mW qM cB2 cI cL cZ y) → va_S (fun q : Nat => s.heap.size ≤ q) s.heap H locs → lv_has ls 7 [(4, .int (nI (6 * j))), (3, .ref qo), (2, .ref qM), (1, .ref qK), (0, .ref b)] → W p l e room_1 s m #[Value.ref b] below meth c H locs (32 + 2 * j) (26000 + 264 * j) (lw_Z below #[Value.ref b] s) (F0 m 23 ls []) := by
  obtain ⟨hx, hb, hr, hml, hown, hts, hX, hbl, hlocks, hgv⟩ := id C0
  have hw0 : ∀ w ∈ w0, w.before #[Value.ref b] s = true := fun w h => hts w (w0_ok w h).1
  have hA : ∀ q : Nat, s.heap.size ≤ q → (fun q : Nat => s.heap.size ≤ q) q := fun _ h => h
  have hbA : ¬ (fun q : Nat => s.heap.size ≤ q) b := Nat.not_le.mpr hbl
  intro n
  induction n with
  | zero =>
    intro j h1 h2
    omega
  | succ n ih =>
    intro j h1 h2 σ x ds y fo H locs ls hsg hk hm hP hD hS hl
    have hj : j ≤ 512 := by omega
    have hkk : 6 * j + 6 ≤ L → (∀ (σ : Sg) (x : KX) (ds : Nat → Option Dc) (y : MY) (fo : Nat → Int64) (H : Heap) (locs : List Loc) (ls : Array Slot), sOk σ → kOk σ x ds → mOk σ y → va_P (dC, dI) vwCl ((([(qo, .inl (cO, 1, .inr (.inl (fo))))] : va_W) ++ kW qK cB cD cR x ds) ++ mW qM cB2 cI cL cZ y) H → va_D (fun q : Nat => s.heap.size ≤ q) ((([(qo, .inl (cO, 1, .inr (.inl (fo))))] : va_W) ++ kW qK cB cD cR x ds) ++ mW qM cB2 cI cL cZ y) → va_S (fun q : Nat => s.heap.size ≤ q) s.heap H locs → lv_has ls 7 [(4, .int (nI (6 * j))), (3, .ref qo), (2, .ref qM), (1, .ref qK), (0, .ref b)] → W p l e room_1 s m #[Value.ref b] below meth c H locs (32 + 2 * j + 2) (26000 + 264 * j + 264) (lw_Z below #[Value.ref b] s) (F0 m 814 ls [])) := by
      intro hi σ x ds y fo H locs ls hsg hk hm hP hD hS hl
      obtain ⟨x_1, ex_1⟩ : ∃ y : Int32, y = (nI (6 * j)) + 6 := ⟨_, rfl⟩
      refine lv_iinc (v := x_1) (lv' := [(4, .int x_1), (3, .ref qo), (2, .ref qM), (1, .ref qK), (0, .ref b)]) hx hb d_L_law_814 hl (k := 0) rfl (by rw [ex_1]; rfl) (by decide) rfl (fun ls hl => ?_)
      refine lv_goto (tgt := 23) hx hb d_L_law_817 (by decide) ?_
      obtain rfl : x_1 = nI (6 * (j + 1)) := ex_1.trans (nI_add (6 * j) 6)
      exact ih (j + 1) (by omega) (by omega) _ _ _ _ _ _ _ _ hsg hk hm hP hD hS (lv_sub hl [0, 1, 2, 3, 4] rfl)
    refine lv_iload hx hb d_L_law_23 (lv_at hl 0 rfl) ?_
    refine lv_aload_n hx hb d_L_law_25 rfl (lv_at hl 4 rfl) ?_
    refine va_slen hx hb hX hbl hbA hS d_L_law_26 ?_
    refine lv_bipush (v := 6) hx hb d_L_law_27 (by decide +kernel) ?_
    refine lv_isub hx hb d_L_law_29 ?_
    refine lv_topi (fun x9 ex9 => ?_)
    refine lv_icmp_gt (tgt := 820) hx hb d_L_law_30 (by decide) (fun c_1 => ?_) (fun c_1 => ?_)
    · refine lv_iconst (v := 1) hx hb d_L_law_820 (by decide) ?_
      refine va_forget (fun q hq => hS.2.2 q hq) ?_
      refine W.widen (k := 601024) (n := 7293033) (by omega) (by omega) ?_
      exact lw_ret hx hb hr hlocks d_L_law_821
    · have hi : 6 * j + 6 ≤ L := x_Li hL (by omega) (by rw [← ex9]; exact c_1)
      refine lv_aload_n hx hb d_L_law_33 rfl (lv_at hl 4 rfl) ?_
      refine lv_iload hx hb d_L_law_34 (lv_at hl 0 rfl) ?_
      refine va_sld hx hb hX hbl hbA hS (x_inK (Nat.le_refl L) (by omega) (nI_pos (by omega)) (nI_ge (by omega) (by omega))) d_L_law_36 ?_
      refine lv_bipush (v := 31) hx hb d_L_law_37 (by decide +kernel) ?_
      refine lv_iand hx hb d_L_law_39 ?_
      obtain ⟨j9, hj9, ej9⟩ := pk_andE ((xs (Int32.toNatClampNeg (nI (6 * j))))) (m := 31) 5 (by decide +kernel)
      refine lv_topi (fun x_2 ex_2 => ?_)
      obtain rfl : x_2 = nI j9 := ex_2.trans ej9
      have hcase : j9 = 0 ∨ j9 = 1 ∨ j9 = 2 ∨ j9 = 3 ∨ j9 = 4 ∨ j9 = 5 ∨ j9 = 6 ∨ j9 = 7 ∨ j9 = 8 ∨ j9 = 9 ∨ j9 = 10 ∨ j9 = 11 ∨ j9 = 12 ∨ j9 = 13 ∨ j9 = 14 ∨ j9 = 15 ∨ j9 = 16 ∨ j9 = 17 ∨ j9 = 18 ∨ 18 < j9 := by omega
      rcases hcase with rfl | rfl | rfl | rfl | rfl | rfl | rfl | rfl | rfl | rfl | rfl | rfl | rfl | rfl | rfl | rfl | rfl | rfl | rfl | h18
      · refine lv_tableIn (tgt := 132) hx hb d_L_law_40 (by decide +kernel) (by decide +kernel) rfl (by decide) ?_
        exact lw_c_0 l hl9 hL C0 qK qM qo cB cD cR cO cB2 cI cL cZ fo x ds y σ (6 * j) (32 + 2 * j) (26000 + 264 * j) (by omega) (by omega) (by omega) hsg hk hm hN hTw hnc hK _ _ hP hD hS ls (lv_sub hl [0, 1, 2, 3, 4] rfl) (hkk hi)
      · refine lv_tableIn (tgt := 208) hx hb d_L_law_40 (by decide +kernel) (by decide +kernel) rfl (by decide) ?_
        exact lw_c_1 l hl9 hL C0 qK qM qo cB cD cR cO cB2 cI cL cZ fo x ds y σ (6 * j) (32 + 2 * j) (26000 + 264 * j) (by omega) (by omega) (by omega) hsg hk hm hN hTw hnc hK _ _ hP hD hS ls (lv_sub hl [0, 1, 2, 3, 4] rfl) (hkk hi)
      · refine lv_tableIn (tgt := 236) hx hb d_L_law_40 (by decide +kernel) (by decide +kernel) rfl (by decide) ?_
        exact lw_c_2 l hl9 hL C0 qK qM qo cB cD cR cO cB2 cI cL cZ fo x ds y σ (6 * j) (32 + 2 * j) (26000 + 264 * j) (by omega) (by omega) (by omega) hsg hk hm hN hTw hnc hK _ _ hP hD hS ls (lv_sub hl [0, 1, 2, 3, 4] rfl) (hkk hi)
      · refine lv_tableIn (tgt := 252) hx hb d_L_law_40 (by decide +kernel) (by decide +kernel) rfl (by decide) ?_
        exact lw_c_3 l hl9 hL C0 qK qM qo cB cD cR cO cB2 cI cL cZ fo x ds y σ (6 * j) (32 + 2 * j) (26000 + 264 * j) (by omega) (by omega) (by omega) hsg hk hm hN hTw hnc hK _ _ hP hD hS ls (lv_sub hl [0, 1, 2, 3, 4] rfl) (hkk hi)
      · refine lv_tableIn (tgt := 292) hx hb d_L_law_40 (by decide +kernel) (by decide +kernel) rfl (by decide) ?_
        exact lw_c_4 l hl9 hL C0 qK qM qo cB cD cR cO cB2 cI cL cZ fo x ds y σ (6 * j) (32 + 2 * j) (26000 + 264 * j) (by omega) (by omega) (by omega) hsg hk hm hN hTw hnc hK _ _ hP hD hS ls (lv_sub hl [0, 1, 2, 3, 4] rfl) (hkk hi)
      · refine lv_tableIn (tgt := 332) hx hb d_L_law_40 (by decide +kernel) (by decide +kernel) rfl (by decide) ?_
        exact lw_c_5 l hl9 hL C0 qK qM qo cB cD cR cO cB2 cI cL cZ fo x ds y σ (6 * j) (32 + 2 * j) (26000 + 264 * j) (by omega) (by omega) (by omega) hsg hk hm hN hTw hnc hK _ _ hP hD hS ls (lv_sub hl [0, 1, 2, 3, 4] rfl) (hkk hi)
      · refine lv_tableIn (tgt := 360) hx hb d_L_law_40 (by decide +kernel) (by decide +kernel) rfl (by decide) ?_
        exact lw_c_6 l hl9 hL C0 qK qM qo cB cD cR cO cB2 cI cL cZ fo x ds y σ (6 * j) (32 + 2 * j) (26000 + 264 * j) (by omega) (by omega) (by omega) hsg hk hm hN hTw hnc hK _ _ hP hD hS ls (lv_sub hl [0, 1, 2, 3, 4] rfl) (hkk hi)
      · refine lv_tableIn (tgt := 376) hx hb d_L_law_40 (by decide +kernel) (by decide +kernel) rfl (by decide) ?_
        exact lw_c_7 l hl9 hL C0 qK qM qo cB cD cR cO cB2 cI cL cZ fo x ds y σ (6 * j) (32 + 2 * j) (26000 + 264 * j) (by omega) (by omega) (by omega) hsg hk hm hN hTw hnc hK _ _ hP hD hS ls (lv_sub hl [0, 1, 2, 3, 4] rfl) (hkk hi)
      · refine lv_tableIn (tgt := 416) hx hb d_L_law_40 (by decide +kernel) (by decide +kernel) rfl (by decide) ?_
        exact lw_c_8 l hl9 hL C0 qK qM qo cB cD cR cO cB2 cI cL cZ fo x ds y σ (6 * j) (32 + 2 * j) (26000 + 264 * j) (by omega) (by omega) (by omega) hsg hk hm hN hTw hnc hK _ _ hP hD hS ls (lv_sub hl [0, 1, 2, 3, 4] rfl) (hkk hi)
      · refine lv_tableIn (tgt := 444) hx hb d_L_law_40 (by decide +kernel) (by decide +kernel) rfl (by decide) ?_
        exact lw_c_9 l hl9 hL C0 qK qM qo cB cD cR cO cB2 cI cL cZ fo x ds y σ (6 * j) (32 + 2 * j) (26000 + 264 * j) (by omega) (by omega) (by omega) hsg hk hm hN hTw hnc hK _ _ hP hD hS ls (lv_sub hl [0, 1, 2, 3, 4] rfl) (hkk hi)
      · refine lv_tableIn (tgt := 484) hx hb d_L_law_40 (by decide +kernel) (by decide +kernel) rfl (by decide) ?_
        exact lw_c_10 l hl9 hL C0 qK qM qo cB cD cR cO cB2 cI cL cZ fo x ds y σ (6 * j) (32 + 2 * j) (26000 + 264 * j) (by omega) (by omega) (by omega) hsg hk hm hN hTw hnc hK _ _ hP hD hS ls (lv_sub hl [0, 1, 2, 3, 4] rfl) (hkk hi)
      · refine lv_tableIn (tgt := 536) hx hb d_L_law_40 (by decide +kernel) (by decide +kernel) rfl (by decide) ?_
        exact lw_c_11 l hl9 hL C0 qK qM qo cB cD cR cO cB2 cI cL cZ fo x ds y σ (6 * j) (32 + 2 * j) (26000 + 264 * j) (by omega) (by omega) (by omega) hsg hk hm hN hTw hnc hK _ _ hP hD hS ls (lv_sub hl [0, 1, 2, 3, 4] rfl) (hkk hi)
      · refine lv_tableIn (tgt := 588) hx hb d_L_law_40 (by decide +kernel) (by decide +kernel) rfl (by decide) ?_
        exact lw_c_12 l hl9 hL C0 qK qM qo cB cD cR cO cB2 cI cL cZ fo x ds y σ (6 * j) (32 + 2 * j) (26000 + 264 * j) (by omega) (by omega) (by omega) hsg hk hm hN hTw hnc hK _ _ hP hD hS ls (lv_sub hl [0, 1, 2, 3, 4] rfl) (hkk hi)
      · refine lv_tableIn (tgt := 652) hx hb d_L_law_40 (by decide +kernel) (by decide +kernel) rfl (by decide) ?_
        exact lw_c_13 l hl9 hL C0 qK qM qo cB cD cR cO cB2 cI cL cZ fo x ds y σ (6 * j) (32 + 2 * j) (26000 + 264 * j) (by omega) (by omega) (by omega) hsg hk hm hN hTw hnc hK _ _ hP hD hS ls (lv_sub hl [0, 1, 2, 3, 4] rfl) (hkk hi)
      · refine lv_tableIn (tgt := 680) hx hb d_L_law_40 (by decide +kernel) (by decide +kernel) rfl (by decide) ?_
        exact lw_c_14 l hl9 hL C0 qK qM qo cB cD cR cO cB2 cI cL cZ fo x ds y σ (6 * j) (32 + 2 * j) (26000 + 264 * j) (by omega) (by omega) (by omega) hsg hk hm hN hTw hnc hK _ _ hP hD hS ls (lv_sub hl [0, 1, 2, 3, 4] rfl) (hkk hi)
      · refine lv_tableIn (tgt := 744) hx hb d_L_law_40 (by decide +kernel) (by decide +kernel) rfl (by decide) ?_
        exact lw_c_15 l hl9 hL C0 qK qM qo cB cD cR cO cB2 cI cL cZ fo x ds y σ (6 * j) (32 + 2 * j) (26000 + 264 * j) (by omega) (by omega) (by omega) hsg hk hm hN hTw hnc hK _ _ hP hD hS ls (lv_sub hl [0, 1, 2, 3, 4] rfl) (hkk hi)
      · refine lv_tableIn (tgt := 760) hx hb d_L_law_40 (by decide +kernel) (by decide +kernel) rfl (by decide) ?_
        exact lw_c_16 l hl9 hL C0 qK qM qo cB cD cR cO cB2 cI cL cZ fo x ds y σ (6 * j) (32 + 2 * j) (26000 + 264 * j) (by omega) (by omega) (by omega) hsg hk hm hN hTw hnc hK _ _ hP hD hS ls (lv_sub hl [0, 1, 2, 3, 4] rfl) (hkk hi)
      · refine lv_tableIn (tgt := 788) hx hb d_L_law_40 (by decide +kernel) (by decide +kernel) rfl (by decide) ?_
        exact lw_c_17 l hl9 hL C0 qK qM qo cB cD cR cO cB2 cI cL cZ fo x ds y σ (6 * j) (32 + 2 * j) (26000 + 264 * j) (by omega) (by omega) (by omega) hsg hk hm hN hTw hnc hK _ _ hP hD hS ls (lv_sub hl [0, 1, 2, 3, 4] rfl) (hkk hi)
      · refine lv_tableIn (tgt := 801) hx hb d_L_law_40 (by decide +kernel) (by decide +kernel) rfl (by decide) ?_
        exact lw_c_18 l hl9 hL C0 qK qM qo cB cD cR cO cB2 cI cL cZ fo x ds y σ (6 * j) (32 + 2 * j) (26000 + 264 * j) (by omega) (by omega) (by omega) hsg hk hm hN hTw hnc hK _ _ hP hD hS ls (lv_sub hl [0, 1, 2, 3, 4] rfl) (hkk hi)
      · refine lv_tableOut (tgt := 814) hx hb d_L_law_40 (Or.inr (by rw [nI_toInt (by omega)]; omega)) (by decide) ?_
        refine W.widen (k := 32 + 2 * j + 2) (n := 26000 + 264 * j + 264) (by omega) (by omega) ?_
        exact hkk hi σ x ds y fo _ _ ls hsg hk hm hP hD hS (lv_sub hl [0, 1, 2, 3, 4] rfl)
