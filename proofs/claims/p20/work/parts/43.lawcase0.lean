set_option maxHeartbeats 4000000 in
set_option maxRecDepth 100000 in
theorem lw_c_0 {p : Program} {e : Env} {s : State} {m : MethodId} {below : List Frame} {meth : Method} {c : Code} (l : Launch) (hl9 : l.stackTraces = false) {b L : Nat} {xs : Nat → Int32} (hL : L ≤ 3072) (C0 : lw_At p s m meth c b L xs) {dC : Nat → ClassId} {dI : Nat → Nat → Nat} (qK qM qo : Nat) (cB cD cR cO cB2 cI cL cZ : ClassId) (fo : Nat → Int64) (x : KX) (ds : Nat → Option Dc) (y : MY) (σ : Sg) (i c0 s0 : Nat) (hi : i + 6 ≤ L) (hcc : c0 + 2 ≤ 601024) (hss : s0 + 264 ≤ 7293033) (hsg : sOk σ) (hk : kOk σ x ds) (hm : mOk σ y) (hN : nw_ok s) (hTw : tw_ok s) (hnc : nc_ok s) (hK : va_K (dC, dI) vwCl [(cO, .long), (cB, .byte), (cD, .object R_D), (cR, .object R_V), (cB2, .byte), (cI, .int), (cL, .short), (cZ, .boolean)] s) (H : Heap) (locs : List Loc) (hP : va_P (dC, dI) vwCl ((([(qo, .inl (cO, 1, .inr (.inl (fo))))] : va_W) ++ kW qK cB cD cR x ds) ++ mW qM cB2 cI cL cZ y) H) (hD : va_D (fun q : Nat => s.heap.size ≤ q) ((([(qo, .inl (cO, 1, .inr (.inl (fo))))] : va_W) ++ kW qK cB cD cR x ds) ++ mW qM cB2 cI cL cZ y)) (hS : va_S (fun q : Nat => s.heap.size ≤ q) s.heap H locs) (ls : Array Slot) (hl : lv_has ls 7 [(4, .int (nI i)), (3, .ref qo), (2, .ref qM), (1, .ref qK), (0, .ref b)]) (kk : ∀ (σ : Sg) (x : KX) (ds : Nat → Option Dc) (y : MY) (fo : Nat → Int64) (H : Heap) (locs : List Loc) (ls : Array Slot), sOk σ → kOk σ x ds → mOk σ y → va_P (dC, dI) vwCl ((([(qo, .inl (cO, 1, .inr (.inl (fo))))] : va_W) ++ kW qK cB cD cR x ds) ++ mW qM cB2 cI cL cZ y) H → va_D (fun q : Nat => s.heap.size ≤ q) ((([(qo, .inl (cO, 1, .inr (.inl (fo))))] : va_W) ++ kW qK cB cD cR x ds) ++ mW qM cB2 cI cL cZ y) → va_S (fun q : Nat => s.heap.size ≤ q) s.heap H locs → lv_has ls 7 [(4, .int (nI i)), (3, .ref qo), (2, .ref qM), (1, .ref qK), (0, .ref b)] → W p l e room_1 s m #[Value.ref b] below meth c H locs (c0 + 2) (s0 + 264) (lw_Z below #[Value.ref b] s) (F0 m 814 ls [])) : W p l e room_1 s m #[Value.ref b] below meth c H locs c0 s0 (lw_Z below #[Value.ref b] s) (F0 m 132 ls []) := by
  obtain ⟨hx, hb, hr, hml, hown, hts, hX, hbl, hlocks, hgv⟩ := id C0
  have hw0 : ∀ w ∈ w0, w.before #[Value.ref b] s = true := fun w h => hts w (w0_ok w h).1
  have hA : ∀ q : Nat, s.heap.size ≤ q → (fun q : Nat => s.heap.size ≤ q) q := fun _ h => h
  have hbA : ¬ (fun q : Nat => s.heap.size ≤ q) b := Nat.not_le.mpr hbl
  refine lv_aload_n hx hb d_L_law_132 rfl (lv_at hl 3 rfl) ?_
  refine lv_aload_n hx hb d_L_law_133 rfl (lv_at hl 4 rfl) ?_
  refine lv_iload hx hb d_L_law_134 (lv_at hl 0 rfl) ?_
  refine lv_iconst (v := 1) hx hb d_L_law_136 (by decide) ?_
  refine lv_iadd hx hb d_L_law_137 ?_
  refine lv_topi (fun x_1 ex_1 => ?_)
  obtain rfl : x_1 = nI (i + 1) := ex_1.trans (nI_add i 1)
  refine va_sld hx hb hX hbl hbA hS (x_inK (Nat.le_refl L) (by omega) (nI_pos (by omega)) (nI_ge (by omega) (by omega))) d_L_law_138 ?_
  refine lv_aload_n hx hb d_L_law_139 rfl (lv_at hl 4 rfl) ?_
  refine lv_iload hx hb d_L_law_140 (lv_at hl 0 rfl) ?_
  refine lv_iconst (v := 2) hx hb d_L_law_142 (by decide) ?_
  refine lv_iadd hx hb d_L_law_143 ?_
  refine lv_topi (fun x_2 ex_2 => ?_)
  obtain rfl : x_2 = nI (i + 2) := ex_2.trans (nI_add i 2)
  refine va_sld hx hb hX hbl hbA hS (x_inK (Nat.le_refl L) (by omega) (nI_pos (by omega)) (nI_ge (by omega) (by omega))) d_L_law_144 ?_
  refine lv_aload_n hx hb d_L_law_145 rfl (lv_at hl 4 rfl) ?_
  refine lv_iload hx hb d_L_law_146 (lv_at hl 0 rfl) ?_
  refine lv_iconst (v := 3) hx hb d_L_law_148 (by decide) ?_
  refine lv_iadd hx hb d_L_law_149 ?_
  refine lv_topi (fun x_3 ex_3 => ?_)
  obtain rfl : x_3 = nI (i + 3) := ex_3.trans (nI_add i 3)
  refine va_sld hx hb hX hbl hbA hS (x_inK (Nat.le_refl L) (by omega) (nI_pos (by omega)) (nI_ge (by omega) (by omega))) d_L_law_150 ?_
  refine lv_aload_n hx hb d_L_law_151 rfl (lv_at hl 4 rfl) ?_
  refine lv_iload hx hb d_L_law_152 (lv_at hl 0 rfl) ?_
  refine lv_iconst (v := 4) hx hb d_L_law_154 (by decide) ?_
  refine lv_iadd hx hb d_L_law_155 ?_
  refine lv_topi (fun x_4 ex_4 => ?_)
  obtain rfl : x_4 = nI (i + 4) := ex_4.trans (nI_add i 4)
  refine va_sld hx hb hX hbl hbA hS (x_inK (Nat.le_refl L) (by omega) (nI_pos (by omega)) (nI_ge (by omega) (by omega))) d_L_law_156 ?_
  refine lv_aload_n hx hb d_L_law_157 rfl (lv_at hl 4 rfl) ?_
  refine lv_iload hx hb d_L_law_158 (lv_at hl 0 rfl) ?_
  refine lv_iconst (v := 5) hx hb d_L_law_160 (by decide) ?_
  refine lv_iadd hx hb d_L_law_161 ?_
  refine lv_topi (fun x_5 ex_5 => ?_)
  obtain rfl : x_5 = nI (i + 5) := ex_5.trans (nI_add i 5)
  refine va_sld hx hb hX hbl hbA hS (x_inK (Nat.le_refl L) (by omega) (nI_pos (by omega)) (nI_ge (by omega) (by omega))) d_L_law_162 ?_
  refine lv_aload_n hx hb d_L_law_163 rfl (lv_at hl 1 rfl) ?_
  have hPc : va_P (dC, dI) vwCl (([(qo, .inl (cO, 1, .inr (.inl (fo))))] : va_W) ++ kW qK cB cD cR x ds) H := hP.left
  have hDc : va_D (fun q : Nat => s.heap.size ≤ q) (([(qo, .inl (cO, 1, .inr (.inl (fo))))] : va_W) ++ kW qK cB cD cR x ds) := hD.left
  have hKc : va_K (dC, dI) vwCl [(cO, .long), (cB, .byte), (cD, .object R_D), (cR, .object R_V)] s := hK.sub [0, 1, 2, 3] rfl
  have hFc : ∀ q : Nat, va_A (([(qo, .inl (cO, 1, .inr (.inl (fo))))] : va_W) ++ kW qK cB cD cR x ds) H.size q → (fun q : Nat => s.heap.size ≤ q) q := fr_free hD hS hA (List.Perm.refl _)
  have hS0 := hS
  refine va_calli (va_runSW (As := [.ref qK, .int (xs (Int32.toNatClampNeg (nI (i + 1)))), .int (xs (Int32.toNatClampNeg (nI (i + 2)))), .int (xs (Int32.toNatClampNeg (nI (i + 3)))), .int (xs (Int32.toNatClampNeg (nI (i + 4)))), .int (xs (Int32.toNatClampNeg (nI (i + 5)))), .ref qo]) (rest := []) ⟨hx, hb, hml, hown, hw0⟩ (w_feed l hl9 dC dI H.size qK qo cB cD cR cO fo x ds σ (xs (Int32.toNatClampNeg (nI (i + 1)))) (xs (Int32.toNatClampNeg (nI (i + 2)))) (xs (Int32.toNatClampNeg (nI (i + 3)))) (xs (Int32.toNatClampNeg (nI (i + 4)))) (xs (Int32.toNatClampNeg (nI (i + 5)))) hsg hk) (csw_of 7 hw0 678 518 519 507 rfl rfl rfl rfl rfl rfl (by decide +kernel) ⟨by decide +kernel, by decide +kernel⟩) (prS_T hPc hKc hDc hN hTw (fun a ha => hS.2.1 a ha (Nat.not_le.mpr ha))) rfl rfl hl.1 rfl (lv_room (Nat.le_of_ble_eq_true rfl)) d_L_law_164 ⟨hcc, hss⟩) hS (fun q _ h => hFc q h) hFc (fun r u t H1 locs ht hvm hw hB hz1 hk1 hS => ?_)
  obtain ⟨fo2, x2, ds2, ⟨hk2, hout⟩, hP1, hK1, hD1⟩ := hB
  rw [ht] at hP1
  obtain ⟨hP, hD⟩ := fr_wld (W2 := ((([(qo, .inl (cO, 1, .inr (.inl (fo2))))] : va_W) ++ kW qK cB cD cR x2 ds2) ++ mW qM cB2 cI cL cZ y)) (A := (fun q : Nat => s.heap.size ≤ q)) (fun q hq => hA q (Nat.le_trans hS0.1 hq)) hP hD (List.Perm.refl _) hk1 hP1 hD1 (kz (List.Perm.refl _))
  clear hPc hDc hKc hFc hP1 hD1 hK1 hk1 hS0
  generalize H1 = H at hP hS ⊢
  refine lv_istore (lv' := [(5, .int r), (4, .int (nI i)), (3, .ref qo), (2, .ref qM), (1, .ref qK), (0, .ref b)]) hx hb d_L_law_167 hl (by decide) rfl (fun ls hl => ?_)
  refine lv_aload_n hx hb d_L_law_169 rfl (lv_at hl 3 rfl) ?_
  refine lv_aload_n hx hb d_L_law_170 rfl (lv_at hl 5 rfl) ?_
  refine lv_iload hx hb d_L_law_171 (lv_at hl 1 rfl) ?_
  refine lv_iconst (v := 1) hx hb d_L_law_173 (by decide) ?_
  refine lv_iadd hx hb d_L_law_174 ?_
  refine lv_topi (fun x_6 ex_6 => ?_)
  obtain rfl : x_6 = nI (i + 1) := ex_6.trans (nI_add i 1)
  refine va_sld hx hb hX hbl hbA hS (x_inK (Nat.le_refl L) (by omega) (nI_pos (by omega)) (nI_ge (by omega) (by omega))) d_L_law_175 ?_
  refine lv_aload_n hx hb d_L_law_176 rfl (lv_at hl 5 rfl) ?_
  refine lv_iload hx hb d_L_law_177 (lv_at hl 1 rfl) ?_
  refine lv_iconst (v := 2) hx hb d_L_law_179 (by decide) ?_
  refine lv_iadd hx hb d_L_law_180 ?_
  refine lv_topi (fun x_7 ex_7 => ?_)
  obtain rfl : x_7 = nI (i + 2) := ex_7.trans (nI_add i 2)
  refine va_sld hx hb hX hbl hbA hS (x_inK (Nat.le_refl L) (by omega) (nI_pos (by omega)) (nI_ge (by omega) (by omega))) d_L_law_181 ?_
  refine lv_aload_n hx hb d_L_law_182 rfl (lv_at hl 5 rfl) ?_
  refine lv_iload hx hb d_L_law_183 (lv_at hl 1 rfl) ?_
  refine lv_iconst (v := 3) hx hb d_L_law_185 (by decide) ?_
  refine lv_iadd hx hb d_L_law_186 ?_
  refine lv_topi (fun x_8 ex_8 => ?_)
  obtain rfl : x_8 = nI (i + 3) := ex_8.trans (nI_add i 3)
  refine va_sld hx hb hX hbl hbA hS (x_inK (Nat.le_refl L) (by omega) (nI_pos (by omega)) (nI_ge (by omega) (by omega))) d_L_law_187 ?_
  refine lv_aload_n hx hb d_L_law_188 rfl (lv_at hl 5 rfl) ?_
  refine lv_iload hx hb d_L_law_189 (lv_at hl 1 rfl) ?_
  refine lv_iconst (v := 4) hx hb d_L_law_191 (by decide) ?_
  refine lv_iadd hx hb d_L_law_192 ?_
  refine lv_topi (fun x_9 ex_9 => ?_)
  obtain rfl : x_9 = nI (i + 4) := ex_9.trans (nI_add i 4)
  refine va_sld hx hb hX hbl hbA hS (x_inK (Nat.le_refl L) (by omega) (nI_pos (by omega)) (nI_ge (by omega) (by omega))) d_L_law_193 ?_
  refine lv_aload_n hx hb d_L_law_194 rfl (lv_at hl 5 rfl) ?_
  refine lv_iload hx hb d_L_law_195 (lv_at hl 1 rfl) ?_
  refine lv_iconst (v := 5) hx hb d_L_law_197 (by decide) ?_
  refine lv_iadd hx hb d_L_law_198 ?_
  refine lv_topi (fun x_10 ex_10 => ?_)
  obtain rfl : x_10 = nI (i + 5) := ex_10.trans (nI_add i 5)
  refine va_sld hx hb hX hbl hbA hS (x_inK (Nat.le_refl L) (by omega) (nI_pos (by omega)) (nI_ge (by omega) (by omega))) d_L_law_199 ?_
  have hPc : va_P (dC, dI) vwCl (mW qM cB2 cI cL cZ y) H := (hP.perm List.perm_append_comm).left
  have hDc : va_D (fun q : Nat => s.heap.size ≤ q) (mW qM cB2 cI cL cZ y) := (hD.perm List.perm_append_comm).left
  have hKc : va_K (dC, dI) vwCl (mT cB2 cI cL cZ) s := hK.sub [4, 5, 6, 7] rfl
  have hFc : ∀ q : Nat, va_A (mW qM cB2 cI cL cZ y) H.size q → (fun q : Nat => s.heap.size ≤ q) q := fr_free hD hS hA List.perm_append_comm
  have hS0 := hS
  refine va_calli (va_runV (As := [.int (xs (Int32.toNatClampNeg (nI (i + 1)))), .int (xs (Int32.toNatClampNeg (nI (i + 2)))), .int (xs (Int32.toNatClampNeg (nI (i + 3)))), .int (xs (Int32.toNatClampNeg (nI (i + 4)))), .int (xs (Int32.toNatClampNeg (nI (i + 5))))]) (rest := []) ⟨hx, hb, hml, hown, hw0⟩ (u_feed l dC dI H.size qM cB2 cI cL cZ y σ (xs (Int32.toNatClampNeg (nI (i + 1)))) (xs (Int32.toNatClampNeg (nI (i + 2)))) (xs (Int32.toNatClampNeg (nI (i + 3)))) (xs (Int32.toNatClampNeg (nI (i + 4)))) (xs (Int32.toNatClampNeg (nI (i + 5)))) hsg hm) (cwV 5 hw0 (gd_V 618 619 620 161 715 rfl rfl rfl rfl rfl) rfl rfl rfl (by decide +kernel) ⟨by decide +kernel, by decide +kernel⟩) (prV_E hPc hKc hDc hN (va_recv hKc hPc (ci := 7) (q0 := 0) rfl rfl)) rfl rfl hl.1 rfl (lv_room (Nat.le_of_ble_eq_true rfl)) d_L_law_200 ⟨hcc, hss⟩) hS (fun q _ h => hFc q h) hFc (fun r2 u t H1 locs ht hvm hw2 hB hz1 hk1 hS => ?_)
  obtain ⟨y2, ⟨hm2, hth⟩, hP1, hK1, hD1⟩ := hB
  rw [ht] at hP1
  obtain ⟨hP, hD⟩ := fr_wld (W2 := ((([(qo, .inl (cO, 1, .inr (.inl (fo2))))] : va_W) ++ kW qK cB cD cR x2 ds2) ++ mW qM cB2 cI cL cZ y2)) (A := (fun q : Nat => s.heap.size ≤ q)) (fun q hq => hA q (Nat.le_trans hS0.1 hq)) hP hD List.perm_append_comm hk1 hP1 hD1 (kz List.perm_append_comm)
  clear hPc hDc hKc hFc hP1 hD1 hK1 hk1 hS0
  generalize H1 = H at hP hS ⊢
  refine W.widen (k := c0 + 2) (n := s0 + 264) (Nat.le_refl _) (Nat.le_refl _) ?_
  refine lv_istore (lv' := [(6, .int r2), (5, .int r), (4, .int (nI i)), (3, .ref qo), (2, .ref qM), (1, .ref qK), (0, .ref b)]) hx hb d_L_law_203 hl (by decide) rfl (fun ls hl => ?_)
  refine lv_goto (tgt := 814) hx hb d_L_law_205 (by decide) ?_
  exact kk _ x2 ds2 y2 fo2 _ _ ls (sOk_of (sW_feed (sW_of hsg)) hk2) hk2 hm2 hP hD hS (lv_sub hl [2, 3, 4, 5, 6] rfl)
set_option maxHeartbeats 4000000 in
set_option maxRecDepth 100000 in
theorem lw_c_1 {p : Program} {e : Env} {s : State} {m : MethodId} {below : List Frame} {meth : Method} {c : Code} (l : Launch) (hl9 : l.stackTraces = false) {b L : Nat} {xs : Nat → Int32} (hL : L ≤ 3072) (C0 : lw_At p s m meth c b L xs) {dC : Nat → ClassId} {dI : Nat → Nat → Nat} (qK qM qo : Nat) (cB cD cR cO cB2 cI cL cZ : ClassId) (fo : Nat → Int64) (x : KX) (ds : Nat → Option Dc) (y : MY) (σ : Sg) (i c0 s0 : Nat) (hi : i + 6 ≤ L) (hcc : c0 + 2 ≤ 601024) (hss : s0 + 264 ≤ 7293033) (hsg : sOk σ) (hk : kOk σ x ds) (hm : mOk σ y) (hN : nw_ok s) (hTw : tw_ok s) (hnc : nc_ok s) (hK : va_K (dC, dI) vwCl [(cO, .long), (cB, .byte), (cD, .object R_D), (cR, .object R_V), (cB2, .byte), (cI, .int), (cL, .short), (cZ, .boolean)] s) (H : Heap) (locs : List Loc) (hP : va_P (dC, dI) vwCl ((([(qo, .inl (cO, 1, .inr (.inl (fo))))] : va_W) ++ kW qK cB cD cR x ds) ++ mW qM cB2 cI cL cZ y) H) (hD : va_D (fun q : Nat => s.heap.size ≤ q) ((([(qo, .inl (cO, 1, .inr (.inl (fo))))] : va_W) ++ kW qK cB cD cR x ds) ++ mW qM cB2 cI cL cZ y)) (hS : va_S (fun q : Nat => s.heap.size ≤ q) s.heap H locs) (ls : Array Slot) (hl : lv_has ls 7 [(4, .int (nI i)), (3, .ref qo), (2, .ref qM), (1, .ref qK), (0, .ref b)]) (kk : ∀ (σ : Sg) (x : KX) (ds : Nat → Option Dc) (y : MY) (fo : Nat → Int64) (H : Heap) (locs : List Loc) (ls : Array Slot), sOk σ → kOk σ x ds → mOk σ y → va_P (dC, dI) vwCl ((([(qo, .inl (cO, 1, .inr (.inl (fo))))] : va_W) ++ kW qK cB cD cR x ds) ++ mW qM cB2 cI cL cZ y) H → va_D (fun q : Nat => s.heap.size ≤ q) ((([(qo, .inl (cO, 1, .inr (.inl (fo))))] : va_W) ++ kW qK cB cD cR x ds) ++ mW qM cB2 cI cL cZ y) → va_S (fun q : Nat => s.heap.size ≤ q) s.heap H locs → lv_has ls 7 [(4, .int (nI i)), (3, .ref qo), (2, .ref qM), (1, .ref qK), (0, .ref b)] → W p l e room_1 s m #[Value.ref b] below meth c H locs (c0 + 2) (s0 + 264) (lw_Z below #[Value.ref b] s) (F0 m 814 ls [])) : W p l e room_1 s m #[Value.ref b] below meth c H locs c0 s0 (lw_Z below #[Value.ref b] s) (F0 m 208 ls []) := by
  obtain ⟨hx, hb, hr, hml, hown, hts, hX, hbl, hlocks, hgv⟩ := id C0
  have hw0 : ∀ w ∈ w0, w.before #[Value.ref b] s = true := fun w h => hts w (w0_ok w h).1
  have hA : ∀ q : Nat, s.heap.size ≤ q → (fun q : Nat => s.heap.size ≤ q) q := fun _ h => h
  have hbA : ¬ (fun q : Nat => s.heap.size ≤ q) b := Nat.not_le.mpr hbl
  refine lv_aload_n hx hb d_L_law_208 rfl (lv_at hl 3 rfl) ?_
  refine lv_aload_n hx hb d_L_law_209 rfl (lv_at hl 4 rfl) ?_
  refine lv_iload hx hb d_L_law_210 (lv_at hl 0 rfl) ?_
  refine lv_iconst (v := 1) hx hb d_L_law_212 (by decide) ?_
  refine lv_iadd hx hb d_L_law_213 ?_
  refine lv_topi (fun x_1 ex_1 => ?_)
  obtain rfl : x_1 = nI (i + 1) := ex_1.trans (nI_add i 1)
  refine va_sld hx hb hX hbl hbA hS (x_inK (Nat.le_refl L) (by omega) (nI_pos (by omega)) (nI_ge (by omega) (by omega))) d_L_law_214 ?_
  refine lv_aload_n hx hb d_L_law_215 rfl (lv_at hl 1 rfl) ?_
  have hPc : va_P (dC, dI) vwCl (([(qo, .inl (cO, 1, .inr (.inl (fo))))] : va_W) ++ kW qK cB cD cR x ds) H := hP.left
  have hDc : va_D (fun q : Nat => s.heap.size ≤ q) (([(qo, .inl (cO, 1, .inr (.inl (fo))))] : va_W) ++ kW qK cB cD cR x ds) := hD.left
  have hKc : va_K (dC, dI) vwCl [(cO, .long), (cB, .byte), (cD, .object R_D), (cR, .object R_V)] s := hK.sub [0, 1, 2, 3] rfl
  have hFc : ∀ q : Nat, va_A (([(qo, .inl (cO, 1, .inr (.inl (fo))))] : va_W) ++ kW qK cB cD cR x ds) H.size q → (fun q : Nat => s.heap.size ≤ q) q := fr_free hD hS hA (List.Perm.refl _)
  have hS0 := hS
  refine va_calli (va_runSW (As := [.ref qK, .int (xs (Int32.toNatClampNeg (nI (i + 1)))), .ref qo]) (rest := []) ⟨hx, hb, hml, hown, hw0⟩ (w_end l hl9 dC dI H.size qK qo cB cD cR cO fo x ds σ (xs (Int32.toNatClampNeg (nI (i + 1)))) hsg hk) (csw_of 3 hw0 680 523 524 507 rfl rfl rfl rfl rfl rfl (by decide +kernel) ⟨by decide +kernel, by decide +kernel⟩) (prS_T hPc hKc hDc hN hTw (fun a ha => hS.2.1 a ha (Nat.not_le.mpr ha))) rfl rfl hl.1 rfl (lv_room (Nat.le_of_ble_eq_true rfl)) d_L_law_216 ⟨hcc, hss⟩) hS (fun q _ h => hFc q h) hFc (fun r u t H1 locs ht hvm hw hB hz1 hk1 hS => ?_)
  obtain ⟨fo2, x2, ds2, ⟨hk2, hout⟩, hP1, hK1, hD1⟩ := hB
  rw [ht] at hP1
  obtain ⟨hP, hD⟩ := fr_wld (W2 := ((([(qo, .inl (cO, 1, .inr (.inl (fo2))))] : va_W) ++ kW qK cB cD cR x2 ds2) ++ mW qM cB2 cI cL cZ y)) (A := (fun q : Nat => s.heap.size ≤ q)) (fun q hq => hA q (Nat.le_trans hS0.1 hq)) hP hD (List.Perm.refl _) hk1 hP1 hD1 (kz (List.Perm.refl _))
  clear hPc hDc hKc hFc hP1 hD1 hK1 hk1 hS0
  generalize H1 = H at hP hS ⊢
  refine lv_istore (lv' := [(5, .int r), (4, .int (nI i)), (3, .ref qo), (2, .ref qM), (1, .ref qK), (0, .ref b)]) hx hb d_L_law_219 hl (by decide) rfl (fun ls hl => ?_)
  refine lv_aload_n hx hb d_L_law_221 rfl (lv_at hl 3 rfl) ?_
  refine lv_aload_n hx hb d_L_law_222 rfl (lv_at hl 5 rfl) ?_
  refine lv_iload hx hb d_L_law_223 (lv_at hl 1 rfl) ?_
  refine lv_iconst (v := 1) hx hb d_L_law_225 (by decide) ?_
  refine lv_iadd hx hb d_L_law_226 ?_
  refine lv_topi (fun x_2 ex_2 => ?_)
  obtain rfl : x_2 = nI (i + 1) := ex_2.trans (nI_add i 1)
  refine va_sld hx hb hX hbl hbA hS (x_inK (Nat.le_refl L) (by omega) (nI_pos (by omega)) (nI_ge (by omega) (by omega))) d_L_law_227 ?_
  have hPc : va_P (dC, dI) vwCl (mW qM cB2 cI cL cZ y) H := (hP.perm List.perm_append_comm).left
  have hDc : va_D (fun q : Nat => s.heap.size ≤ q) (mW qM cB2 cI cL cZ y) := (hD.perm List.perm_append_comm).left
  have hKc : va_K (dC, dI) vwCl (mT cB2 cI cL cZ) s := hK.sub [4, 5, 6, 7] rfl
  have hFc : ∀ q : Nat, va_A (mW qM cB2 cI cL cZ y) H.size q → (fun q : Nat => s.heap.size ≤ q) q := fr_free hD hS hA List.perm_append_comm
  have hS0 := hS
  refine va_calli (va_runV (As := [.int (xs (Int32.toNatClampNeg (nI (i + 1))))]) (rest := []) ⟨hx, hb, hml, hown, hw0⟩ (u_end l dC dI H.size qM cB2 cI cL cZ y σ (xs (Int32.toNatClampNeg (nI (i + 1)))) hsg hm) (cwV 1 hw0 (gd_V 621 622 623 161 716 rfl rfl rfl rfl rfl) rfl rfl rfl (by decide +kernel) ⟨by decide +kernel, by decide +kernel⟩) (prV_E hPc hKc hDc hN (va_recv hKc hPc (ci := 7) (q0 := 0) rfl rfl)) rfl rfl hl.1 rfl (lv_room (Nat.le_of_ble_eq_true rfl)) d_L_law_228 ⟨hcc, hss⟩) hS (fun q _ h => hFc q h) hFc (fun r2 u t H1 locs ht hvm hw2 hB hz1 hk1 hS => ?_)
  obtain ⟨y2, ⟨hm2, hth⟩, hP1, hK1, hD1⟩ := hB
  rw [ht] at hP1
  obtain ⟨hP, hD⟩ := fr_wld (W2 := ((([(qo, .inl (cO, 1, .inr (.inl (fo2))))] : va_W) ++ kW qK cB cD cR x2 ds2) ++ mW qM cB2 cI cL cZ y2)) (A := (fun q : Nat => s.heap.size ≤ q)) (fun q hq => hA q (Nat.le_trans hS0.1 hq)) hP hD List.perm_append_comm hk1 hP1 hD1 (kz List.perm_append_comm)
  clear hPc hDc hKc hFc hP1 hD1 hK1 hk1 hS0
  generalize H1 = H at hP hS ⊢
  refine W.widen (k := c0 + 2) (n := s0 + 264) (Nat.le_refl _) (Nat.le_refl _) ?_
  refine lv_istore (lv' := [(6, .int r2), (5, .int r), (4, .int (nI i)), (3, .ref qo), (2, .ref qM), (1, .ref qK), (0, .ref b)]) hx hb d_L_law_231 hl (by decide) rfl (fun ls hl => ?_)
  refine lv_goto (tgt := 814) hx hb d_L_law_233 (by decide) ?_
  exact kk _ x2 ds2 y2 fo2 _ _ ls (sOk_of (sW_end (sW_of hsg)) hk2) hk2 hm2 hP hD hS (lv_sub hl [2, 3, 4, 5, 6] rfl)
set_option maxHeartbeats 4000000 in
set_option maxRecDepth 100000 in
theorem lw_c_2 {p : Program} {e : Env} {s : State} {m : MethodId} {below : List Frame} {meth : Method} {c : Code} (l : Launch) (hl9 : l.stackTraces = false) {b L : Nat} {xs : Nat → Int32} (hL : L ≤ 3072) (C0 : lw_At p s m meth c b L xs) {dC : Nat → ClassId} {dI : Nat → Nat → Nat} (qK qM qo : Nat) (cB cD cR cO cB2 cI cL cZ : ClassId) (fo : Nat → Int64) (x : KX) (ds : Nat → Option Dc) (y : MY) (σ : Sg) (i c0 s0 : Nat) (hi : i + 6 ≤ L) (hcc : c0 + 2 ≤ 601024) (hss : s0 + 264 ≤ 7293033) (hsg : sOk σ) (hk : kOk σ x ds) (hm : mOk σ y) (hN : nw_ok s) (hTw : tw_ok s) (hnc : nc_ok s) (hK : va_K (dC, dI) vwCl [(cO, .long), (cB, .byte), (cD, .object R_D), (cR, .object R_V), (cB2, .byte), (cI, .int), (cL, .short), (cZ, .boolean)] s) (H : Heap) (locs : List Loc) (hP : va_P (dC, dI) vwCl ((([(qo, .inl (cO, 1, .inr (.inl (fo))))] : va_W) ++ kW qK cB cD cR x ds) ++ mW qM cB2 cI cL cZ y) H) (hD : va_D (fun q : Nat => s.heap.size ≤ q) ((([(qo, .inl (cO, 1, .inr (.inl (fo))))] : va_W) ++ kW qK cB cD cR x ds) ++ mW qM cB2 cI cL cZ y)) (hS : va_S (fun q : Nat => s.heap.size ≤ q) s.heap H locs) (ls : Array Slot) (hl : lv_has ls 7 [(4, .int (nI i)), (3, .ref qo), (2, .ref qM), (1, .ref qK), (0, .ref b)]) (kk : ∀ (σ : Sg) (x : KX) (ds : Nat → Option Dc) (y : MY) (fo : Nat → Int64) (H : Heap) (locs : List Loc) (ls : Array Slot), sOk σ → kOk σ x ds → mOk σ y → va_P (dC, dI) vwCl ((([(qo, .inl (cO, 1, .inr (.inl (fo))))] : va_W) ++ kW qK cB cD cR x ds) ++ mW qM cB2 cI cL cZ y) H → va_D (fun q : Nat => s.heap.size ≤ q) ((([(qo, .inl (cO, 1, .inr (.inl (fo))))] : va_W) ++ kW qK cB cD cR x ds) ++ mW qM cB2 cI cL cZ y) → va_S (fun q : Nat => s.heap.size ≤ q) s.heap H locs → lv_has ls 7 [(4, .int (nI i)), (3, .ref qo), (2, .ref qM), (1, .ref qK), (0, .ref b)] → W p l e room_1 s m #[Value.ref b] below meth c H locs (c0 + 2) (s0 + 264) (lw_Z below #[Value.ref b] s) (F0 m 814 ls [])) : W p l e room_1 s m #[Value.ref b] below meth c H locs c0 s0 (lw_Z below #[Value.ref b] s) (F0 m 236 ls []) := by
  obtain ⟨hx, hb, hr, hml, hown, hts, hX, hbl, hlocks, hgv⟩ := id C0
  have hw0 : ∀ w ∈ w0, w.before #[Value.ref b] s = true := fun w h => hts w (w0_ok w h).1
  have hA : ∀ q : Nat, s.heap.size ≤ q → (fun q : Nat => s.heap.size ≤ q) q := fun _ h => h
  have hbA : ¬ (fun q : Nat => s.heap.size ≤ q) b := Nat.not_le.mpr hbl
  refine lv_aload_n hx hb d_L_law_236 rfl (lv_at hl 3 rfl) ?_
  refine lv_aload_n hx hb d_L_law_237 rfl (lv_at hl 1 rfl) ?_
  have hPc : va_P (dC, dI) vwCl (([(qo, .inl (cO, 1, .inr (.inl (fo))))] : va_W) ++ kW qK cB cD cR x ds) H := hP.left
  have hDc : va_D (fun q : Nat => s.heap.size ≤ q) (([(qo, .inl (cO, 1, .inr (.inl (fo))))] : va_W) ++ kW qK cB cD cR x ds) := hD.left
  have hKc : va_K (dC, dI) vwCl [(cO, .long), (cB, .byte), (cD, .object R_D), (cR, .object R_V)] s := hK.sub [0, 1, 2, 3] rfl
  have hFc : ∀ q : Nat, va_A (([(qo, .inl (cO, 1, .inr (.inl (fo))))] : va_W) ++ kW qK cB cD cR x ds) H.size q → (fun q : Nat => s.heap.size ≤ q) q := fr_free hD hS hA (List.Perm.refl _)
  have hS0 := hS
  refine va_calli (va_runSW (As := [.ref qK, .ref qo]) (rest := []) ⟨hx, hb, hml, hown, hw0⟩ (w_make l hl9 dC dI H.size qK qo cB cD cR cO fo x ds σ hsg hk) (csw_of 2 hw0 682 528 529 507 rfl rfl rfl rfl rfl rfl (by decide +kernel) ⟨by decide +kernel, by decide +kernel⟩) (prS_T hPc hKc hDc hN hTw (fun a ha => hS.2.1 a ha (Nat.not_le.mpr ha))) rfl rfl hl.1 rfl (lv_room (Nat.le_of_ble_eq_true rfl)) d_L_law_238 ⟨hcc, hss⟩) hS (fun q _ h => hFc q h) hFc (fun r u t H1 locs ht hvm hw hB hz1 hk1 hS => ?_)
  obtain ⟨fo2, x2, ds2, ⟨hk2, hout⟩, hP1, hK1, hD1⟩ := hB
  rw [ht] at hP1
  obtain ⟨hP, hD⟩ := fr_wld (W2 := ((([(qo, .inl (cO, 1, .inr (.inl (fo2))))] : va_W) ++ kW qK cB cD cR x2 ds2) ++ mW qM cB2 cI cL cZ y)) (A := (fun q : Nat => s.heap.size ≤ q)) (fun q hq => hA q (Nat.le_trans hS0.1 hq)) hP hD (List.Perm.refl _) hk1 hP1 hD1 (kz (List.Perm.refl _))
  clear hPc hDc hKc hFc hP1 hD1 hK1 hk1 hS0
  generalize H1 = H at hP hS ⊢
  refine lv_istore (lv' := [(5, .int r), (4, .int (nI i)), (3, .ref qo), (2, .ref qM), (1, .ref qK), (0, .ref b)]) hx hb d_L_law_241 hl (by decide) rfl (fun ls hl => ?_)
  refine lv_aload_n hx hb d_L_law_243 rfl (lv_at hl 3 rfl) ?_
  have hPc : va_P (dC, dI) vwCl (mW qM cB2 cI cL cZ y) H := (hP.perm List.perm_append_comm).left
  have hDc : va_D (fun q : Nat => s.heap.size ≤ q) (mW qM cB2 cI cL cZ y) := (hD.perm List.perm_append_comm).left
  have hKc : va_K (dC, dI) vwCl (mT cB2 cI cL cZ) s := hK.sub [4, 5, 6, 7] rfl
  have hFc : ∀ q : Nat, va_A (mW qM cB2 cI cL cZ y) H.size q → (fun q : Nat => s.heap.size ≤ q) q := fr_free hD hS hA List.perm_append_comm
  have hS0 := hS
  refine va_calli (va_runV (As := []) (rest := []) ⟨hx, hb, hml, hown, hw0⟩ (u_make l dC dI H.size qM cB2 cI cL cZ y σ hsg hm) (cwV 0 hw0 (gd_V 624 625 626 161 717 rfl rfl rfl rfl rfl) rfl rfl rfl (by decide +kernel) ⟨by decide +kernel, by decide +kernel⟩) (prV_E hPc hKc hDc hN (va_recv hKc hPc (ci := 7) (q0 := 0) rfl rfl)) rfl rfl hl.1 rfl (lv_room (Nat.le_of_ble_eq_true rfl)) d_L_law_244 ⟨hcc, hss⟩) hS (fun q _ h => hFc q h) hFc (fun r2 u t H1 locs ht hvm hw2 hB hz1 hk1 hS => ?_)
  obtain ⟨y2, ⟨hm2, hth⟩, hP1, hK1, hD1⟩ := hB
  rw [ht] at hP1
  obtain ⟨hP, hD⟩ := fr_wld (W2 := ((([(qo, .inl (cO, 1, .inr (.inl (fo2))))] : va_W) ++ kW qK cB cD cR x2 ds2) ++ mW qM cB2 cI cL cZ y2)) (A := (fun q : Nat => s.heap.size ≤ q)) (fun q hq => hA q (Nat.le_trans hS0.1 hq)) hP hD List.perm_append_comm hk1 hP1 hD1 (kz List.perm_append_comm)
  clear hPc hDc hKc hFc hP1 hD1 hK1 hk1 hS0
  generalize H1 = H at hP hS ⊢
  refine W.widen (k := c0 + 2) (n := s0 + 264) (Nat.le_refl _) (Nat.le_refl _) ?_
  refine lv_istore (lv' := [(6, .int r2), (5, .int r), (4, .int (nI i)), (3, .ref qo), (2, .ref qM), (1, .ref qK), (0, .ref b)]) hx hb d_L_law_247 hl (by decide) rfl (fun ls hl => ?_)
  refine lv_goto (tgt := 814) hx hb d_L_law_249 (by decide) ?_
  exact kk _ x2 ds2 y2 fo2 _ _ ls (sOk_of (sW_make (sW_of hsg)) hk2) hk2 hm2 hP hD hS (lv_sub hl [2, 3, 4, 5, 6] rfl)
set_option maxHeartbeats 4000000 in
set_option maxRecDepth 100000 in
theorem lw_c_3 {p : Program} {e : Env} {s : State} {m : MethodId} {below : List Frame} {meth : Method} {c : Code} (l : Launch) (hl9 : l.stackTraces = false) {b L : Nat} {xs : Nat → Int32} (hL : L ≤ 3072) (C0 : lw_At p s m meth c b L xs) {dC : Nat → ClassId} {dI : Nat → Nat → Nat} (qK qM qo : Nat) (cB cD cR cO cB2 cI cL cZ : ClassId) (fo : Nat → Int64) (x : KX) (ds : Nat → Option Dc) (y : MY) (σ : Sg) (i c0 s0 : Nat) (hi : i + 6 ≤ L) (hcc : c0 + 2 ≤ 601024) (hss : s0 + 264 ≤ 7293033) (hsg : sOk σ) (hk : kOk σ x ds) (hm : mOk σ y) (hN : nw_ok s) (hTw : tw_ok s) (hnc : nc_ok s) (hK : va_K (dC, dI) vwCl [(cO, .long), (cB, .byte), (cD, .object R_D), (cR, .object R_V), (cB2, .byte), (cI, .int), (cL, .short), (cZ, .boolean)] s) (H : Heap) (locs : List Loc) (hP : va_P (dC, dI) vwCl ((([(qo, .inl (cO, 1, .inr (.inl (fo))))] : va_W) ++ kW qK cB cD cR x ds) ++ mW qM cB2 cI cL cZ y) H) (hD : va_D (fun q : Nat => s.heap.size ≤ q) ((([(qo, .inl (cO, 1, .inr (.inl (fo))))] : va_W) ++ kW qK cB cD cR x ds) ++ mW qM cB2 cI cL cZ y)) (hS : va_S (fun q : Nat => s.heap.size ≤ q) s.heap H locs) (ls : Array Slot) (hl : lv_has ls 7 [(4, .int (nI i)), (3, .ref qo), (2, .ref qM), (1, .ref qK), (0, .ref b)]) (kk : ∀ (σ : Sg) (x : KX) (ds : Nat → Option Dc) (y : MY) (fo : Nat → Int64) (H : Heap) (locs : List Loc) (ls : Array Slot), sOk σ → kOk σ x ds → mOk σ y → va_P (dC, dI) vwCl ((([(qo, .inl (cO, 1, .inr (.inl (fo))))] : va_W) ++ kW qK cB cD cR x ds) ++ mW qM cB2 cI cL cZ y) H → va_D (fun q : Nat => s.heap.size ≤ q) ((([(qo, .inl (cO, 1, .inr (.inl (fo))))] : va_W) ++ kW qK cB cD cR x ds) ++ mW qM cB2 cI cL cZ y) → va_S (fun q : Nat => s.heap.size ≤ q) s.heap H locs → lv_has ls 7 [(4, .int (nI i)), (3, .ref qo), (2, .ref qM), (1, .ref qK), (0, .ref b)] → W p l e room_1 s m #[Value.ref b] below meth c H locs (c0 + 2) (s0 + 264) (lw_Z below #[Value.ref b] s) (F0 m 814 ls [])) : W p l e room_1 s m #[Value.ref b] below meth c H locs c0 s0 (lw_Z below #[Value.ref b] s) (F0 m 252 ls []) := by
  obtain ⟨hx, hb, hr, hml, hown, hts, hX, hbl, hlocks, hgv⟩ := id C0
  have hw0 : ∀ w ∈ w0, w.before #[Value.ref b] s = true := fun w h => hts w (w0_ok w h).1
  have hA : ∀ q : Nat, s.heap.size ≤ q → (fun q : Nat => s.heap.size ≤ q) q := fun _ h => h
  have hbA : ¬ (fun q : Nat => s.heap.size ≤ q) b := Nat.not_le.mpr hbl
  refine lv_aload_n hx hb d_L_law_252 rfl (lv_at hl 3 rfl) ?_
  refine lv_aload_n hx hb d_L_law_253 rfl (lv_at hl 4 rfl) ?_
  refine lv_iload hx hb d_L_law_254 (lv_at hl 0 rfl) ?_
  refine lv_iconst (v := 1) hx hb d_L_law_256 (by decide) ?_
  refine lv_iadd hx hb d_L_law_257 ?_
  refine lv_topi (fun x_1 ex_1 => ?_)
  obtain rfl : x_1 = nI (i + 1) := ex_1.trans (nI_add i 1)
  refine va_sld hx hb hX hbl hbA hS (x_inK (Nat.le_refl L) (by omega) (nI_pos (by omega)) (nI_ge (by omega) (by omega))) d_L_law_258 ?_
  refine lv_aload_n hx hb d_L_law_259 rfl (lv_at hl 4 rfl) ?_
  refine lv_iload hx hb d_L_law_260 (lv_at hl 0 rfl) ?_
  refine lv_iconst (v := 2) hx hb d_L_law_262 (by decide) ?_
  refine lv_iadd hx hb d_L_law_263 ?_
  refine lv_topi (fun x_2 ex_2 => ?_)
  obtain rfl : x_2 = nI (i + 2) := ex_2.trans (nI_add i 2)
  refine va_sld hx hb hX hbl hbA hS (x_inK (Nat.le_refl L) (by omega) (nI_pos (by omega)) (nI_ge (by omega) (by omega))) d_L_law_264 ?_
  refine lv_aload_n hx hb d_L_law_265 rfl (lv_at hl 1 rfl) ?_
  have hPc : va_P (dC, dI) vwCl (([(qo, .inl (cO, 1, .inr (.inl (fo))))] : va_W) ++ kW qK cB cD cR x ds) H := hP.left
  have hDc : va_D (fun q : Nat => s.heap.size ≤ q) (([(qo, .inl (cO, 1, .inr (.inl (fo))))] : va_W) ++ kW qK cB cD cR x ds) := hD.left
  have hKc : va_K (dC, dI) vwCl [(cO, .long), (cB, .byte), (cD, .object R_D), (cR, .object R_V)] s := hK.sub [0, 1, 2, 3] rfl
  have hFc : ∀ q : Nat, va_A (([(qo, .inl (cO, 1, .inr (.inl (fo))))] : va_W) ++ kW qK cB cD cR x ds) H.size q → (fun q : Nat => s.heap.size ≤ q) q := fr_free hD hS hA (List.Perm.refl _)
  have hS0 := hS
  refine va_calli (va_runSW (As := [.ref qK, .int (xs (Int32.toNatClampNeg (nI (i + 1)))), .int (xs (Int32.toNatClampNeg (nI (i + 2)))), .ref qo]) (rest := []) ⟨hx, hb, hml, hown, hw0⟩ (w_commit l hl9 dC dI H.size qK qo cB cD cR cO fo x ds σ (xs (Int32.toNatClampNeg (nI (i + 1)))) (xs (Int32.toNatClampNeg (nI (i + 2)))) hsg hk) (csw_of 4 hw0 684 533 534 507 rfl rfl rfl rfl rfl rfl (by decide +kernel) ⟨by decide +kernel, by decide +kernel⟩) (prS_T hPc hKc hDc hN hTw (fun a ha => hS.2.1 a ha (Nat.not_le.mpr ha))) rfl rfl hl.1 rfl (lv_room (Nat.le_of_ble_eq_true rfl)) d_L_law_266 ⟨hcc, hss⟩) hS (fun q _ h => hFc q h) hFc (fun r u t H1 locs ht hvm hw hB hz1 hk1 hS => ?_)
  obtain ⟨fo2, x2, ds2, ⟨hk2, hout⟩, hP1, hK1, hD1⟩ := hB
  rw [ht] at hP1
  obtain ⟨hP, hD⟩ := fr_wld (W2 := ((([(qo, .inl (cO, 1, .inr (.inl (fo2))))] : va_W) ++ kW qK cB cD cR x2 ds2) ++ mW qM cB2 cI cL cZ y)) (A := (fun q : Nat => s.heap.size ≤ q)) (fun q hq => hA q (Nat.le_trans hS0.1 hq)) hP hD (List.Perm.refl _) hk1 hP1 hD1 (kz (List.Perm.refl _))
  clear hPc hDc hKc hFc hP1 hD1 hK1 hk1 hS0
  generalize H1 = H at hP hS ⊢
  refine lv_istore (lv' := [(5, .int r), (4, .int (nI i)), (3, .ref qo), (2, .ref qM), (1, .ref qK), (0, .ref b)]) hx hb d_L_law_269 hl (by decide) rfl (fun ls hl => ?_)
  refine lv_aload_n hx hb d_L_law_271 rfl (lv_at hl 3 rfl) ?_
  refine lv_aload_n hx hb d_L_law_272 rfl (lv_at hl 5 rfl) ?_
  refine lv_iload hx hb d_L_law_273 (lv_at hl 1 rfl) ?_
  refine lv_iconst (v := 1) hx hb d_L_law_275 (by decide) ?_
  refine lv_iadd hx hb d_L_law_276 ?_
  refine lv_topi (fun x_3 ex_3 => ?_)
  obtain rfl : x_3 = nI (i + 1) := ex_3.trans (nI_add i 1)
  refine va_sld hx hb hX hbl hbA hS (x_inK (Nat.le_refl L) (by omega) (nI_pos (by omega)) (nI_ge (by omega) (by omega))) d_L_law_277 ?_
  refine lv_aload_n hx hb d_L_law_278 rfl (lv_at hl 5 rfl) ?_
  refine lv_iload hx hb d_L_law_279 (lv_at hl 1 rfl) ?_
  refine lv_iconst (v := 2) hx hb d_L_law_281 (by decide) ?_
  refine lv_iadd hx hb d_L_law_282 ?_
  refine lv_topi (fun x_4 ex_4 => ?_)
  obtain rfl : x_4 = nI (i + 2) := ex_4.trans (nI_add i 2)
  refine va_sld hx hb hX hbl hbA hS (x_inK (Nat.le_refl L) (by omega) (nI_pos (by omega)) (nI_ge (by omega) (by omega))) d_L_law_283 ?_
  have hPc : va_P (dC, dI) vwCl (mW qM cB2 cI cL cZ y) H := (hP.perm List.perm_append_comm).left
  have hDc : va_D (fun q : Nat => s.heap.size ≤ q) (mW qM cB2 cI cL cZ y) := (hD.perm List.perm_append_comm).left
  have hKc : va_K (dC, dI) vwCl (mT cB2 cI cL cZ) s := hK.sub [4, 5, 6, 7] rfl
  have hFc : ∀ q : Nat, va_A (mW qM cB2 cI cL cZ y) H.size q → (fun q : Nat => s.heap.size ≤ q) q := fr_free hD hS hA List.perm_append_comm
  have hS0 := hS
  refine va_calli (va_runV (As := [.int (xs (Int32.toNatClampNeg (nI (i + 1)))), .int (xs (Int32.toNatClampNeg (nI (i + 2))))]) (rest := []) ⟨hx, hb, hml, hown, hw0⟩ (u_commit l dC dI H.size qM cB2 cI cL cZ y σ (xs (Int32.toNatClampNeg (nI (i + 1)))) (xs (Int32.toNatClampNeg (nI (i + 2)))) hsg hm) (cwV 2 hw0 (gd_V 627 628 629 161 718 rfl rfl rfl rfl rfl) rfl rfl rfl (by decide +kernel) ⟨by decide +kernel, by decide +kernel⟩) (prV_E hPc hKc hDc hN (va_recv hKc hPc (ci := 7) (q0 := 0) rfl rfl)) rfl rfl hl.1 rfl (lv_room (Nat.le_of_ble_eq_true rfl)) d_L_law_284 ⟨hcc, hss⟩) hS (fun q _ h => hFc q h) hFc (fun r2 u t H1 locs ht hvm hw2 hB hz1 hk1 hS => ?_)
  obtain ⟨y2, ⟨hm2, hth⟩, hP1, hK1, hD1⟩ := hB
  rw [ht] at hP1
  obtain ⟨hP, hD⟩ := fr_wld (W2 := ((([(qo, .inl (cO, 1, .inr (.inl (fo2))))] : va_W) ++ kW qK cB cD cR x2 ds2) ++ mW qM cB2 cI cL cZ y2)) (A := (fun q : Nat => s.heap.size ≤ q)) (fun q hq => hA q (Nat.le_trans hS0.1 hq)) hP hD List.perm_append_comm hk1 hP1 hD1 (kz List.perm_append_comm)
  clear hPc hDc hKc hFc hP1 hD1 hK1 hk1 hS0
  generalize H1 = H at hP hS ⊢
  refine W.widen (k := c0 + 2) (n := s0 + 264) (Nat.le_refl _) (Nat.le_refl _) ?_
  refine lv_istore (lv' := [(6, .int r2), (5, .int r), (4, .int (nI i)), (3, .ref qo), (2, .ref qM), (1, .ref qK), (0, .ref b)]) hx hb d_L_law_287 hl (by decide) rfl (fun ls hl => ?_)
  refine lv_goto (tgt := 814) hx hb d_L_law_289 (by decide) ?_
  exact kk _ x2 ds2 y2 fo2 _ _ ls (sOk_of (sW_commit hsg) hk2) hk2 hm2 hP hD hS (lv_sub hl [2, 3, 4, 5, 6] rfl)
