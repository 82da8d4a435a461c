set_option maxHeartbeats 4000000 in
set_option maxRecDepth 100000 in
theorem w_feed (l : Launch) (hl9 : l.stackTraces = false) (dC : Nat → ClassId) (dI : Nat → Nat → Nat) (sz : Nat) (h0 ho : Nat) (cB cD cR cO : ClassId) (fo : Nat → Int64) (x : KX) (ds : Nat → Option Dc) (σ : Sg) (a1 : Int32) (a2 : Int32) (a3 : Int32) (a4 : Int32) (a5 : Int32) (hs : sOk σ) (hk : kOk σ x ds) : Met l y_L_feed k_L_feed ({ frames := 9, cells := 2, slots := 264, locals := 179 } : Room) (va_Pc [.ref h0, .int a1, .int a2, .int a3, .int a4, .int a5, .ref ho] (fun U => pc_E (dC, dI) (([(ho, .inl (cO, 1, .inr (.inl (fo))))] : va_W) ++ kW h0 cB cD cR x ds) [(cO, .long), (cB, .byte), (cD, .object R_D), (cR, .object R_V)] sz U ∧ tw_ok U)) (va_Qi (fun (r : Int32) (_ : Unit) => r = (sFeed σ a1 a2 a3 a4 a5).2.1) (fun (_ : Unit) t => ∃ (fo2 : Nat → Int64) (x2 : KX) (ds2 : Nat → Option Dc), (kOk (sFeed σ a1 a2 a3 a4 a5).1 x2 ds2 ∧ ((sFeed σ a1 a2 a3 a4 a5).2.1 = 0 → fo2 0 = (if (sFeed σ a1 a2 a3 a4 a5).2.2 = 0 then 0 else 1))) ∧ at_E (dC, dI) (va_A (([(ho, .inl (cO, 1, .inr (.inl (fo))))] : va_W) ++ kW h0 cB cD cR x ds) sz) (([(ho, .inl (cO, 1, .inr (.inl (fo2))))] : va_W) ++ kW h0 cB cD cR x2 ds2) [(cO, .long), (cB, .byte), (cD, .object R_D), (cR, .object R_V)] t) (va_A (([(ho, .inl (cO, 1, .inr (.inl (fo))))] : va_W) ++ kW h0 cB cD cR x ds) sz)) 2 264 (va_A (([(ho, .inl (cO, 1, .inr (.inl (fo))))] : va_W) ++ kW h0 cB cD cR x ds) sz) := by
  refine va_MetW (hh := [(0, 23, 26, 13)]) (cc := method_3_code) (maxL := 8) (ret := (some .int)) (by decide) rfl ?_
  intro p e s m args below meth c s₁ B hml hv
  obtain ⟨rfl, ⟨hsz, hP, hK, hD0, hN⟩, hTw⟩ := hv
  have hx := B.exec
  have hb := B.bytes
  have hr := B.returns
  have hts := atoms_spec (ws := k_L_feed) B.pre
  have hw0 : ∀ w ∈ w0, w.before _ s = true := fun w h => hts w (List.mem_cons_of_mem _ h)
  have hown : s.vm.findClass R_L = some m.cls := findClass_of_methodNamed B.named
  have hlocks := B.notSynchronized
  have htab := vx_table (x := y_L_feed) B (hts (.codeWith y_L_feed method_3_code 8 (some .int) [(0, 23, 26, 13)]) List.mem_cons_self)
  subst hsz
  have hD := hD0.self (sz := s.heap.size)
  generalize hAe : va_A (([(ho, .inl (cO, 1, .inr (.inl (fo))))] : va_W) ++ kW h0 cB cD cR x ds) s.heap.size = A at hD ⊢
  have hA : ∀ q : Nat, s.heap.size ≤ q → A q := fun q h => by rw [← hAe]; exact Or.inr h
  clear hAe hD0
  have hS : va_S A s.heap s.heap [] := va_S.rf
  have hl := lv_entry ([.ref h0, .int a1, .int a2, .int a3, .int a4, .int a5, .ref ho]) (n := 8) (Nat.le_of_ble_eq_true rfl)
  rw [lg_entry_eq]
  generalize (lg_sl ([.ref h0, .int a1, .int a2, .int a3, .int a4, .int a5, .ref ho]) ++ List.replicate (8 - (lg_sl ([.ref h0, .int a1, .int a2, .int a3, .int a4, .int a5, .ref ho])).length) Slot.unset).toArray = ls at hl ⊢
  have hl : lv_has ls 8 [(0, .ref h0), (1, .int a1), (2, .int a2), (3, .int a3), (4, .int a4), (5, .int a5), (6, .ref ho)] := hl
  refine lv_aload hx hb d_L_feed_0 (lv_at hl 6 rfl) ?_
  refine lv_iconst (v := 0) hx hb d_L_feed_2 (by decide) ?_
  refine lv_aload_n hx hb d_L_feed_3 rfl (lv_at hl 0 rfl) ?_
  refine lv_iload_n hx hb d_L_feed_4 rfl (lv_at hl 1 rfl) ?_
  refine lv_iload_n hx hb d_L_feed_5 rfl (lv_at hl 2 rfl) ?_
  refine lv_iload_n hx hb d_L_feed_6 rfl (lv_at hl 3 rfl) ?_
  refine lv_iload hx hb d_L_feed_7 (lv_at hl 4 rfl) ?_
  refine lv_iload hx hb d_L_feed_9 (lv_at hl 5 rfl) ?_
  have hPc : va_P (dC, dI) vwCl (kW h0 cB cD cR x ds) s.heap := (hP.perm List.perm_append_comm).left
  have hDc : va_D A (kW h0 cB cD cR x ds) := (hD.perm List.perm_append_comm).left
  have hKc : va_K (dC, dI) vwCl (kT cB cD cR) s := hK.sub [1, 2, 3] rfl
  have hFc : ∀ q : Nat, va_A (kW h0 cB cD cR x ds) s.heap.size q → A q := fr_free hD hS hA List.perm_append_comm
  have hS0 := hS
  refine vx_calli (vx_runV (As := [.int a1, .int a2, .int a3, .int a4, .int a5]) (rest := [.int 0, .ref ho]) ⟨hx, hb, hml, hown, hw0⟩ (kMet.out (k_feed l hl9 dC dI s.heap.size h0 cB cD cR x ds σ a1 a2 a3 a4 a5 hs hk)) (cwV 5 hw0 (gd_V 520 521 522 226 679 rfl rfl rfl rfl rfl) rfl rfl rfl (by decide +kernel) ⟨by decide +kernel, by decide +kernel⟩) (prV_T hPc hKc hDc hN hTw (fun _ _ => rfl) (va_recv hKc hPc (ci := 0) (q0 := 0) rfl rfl)) rfl rfl hl.1 rfl (lv_room (Nat.le_of_ble_eq_true rfl)) d_L_feed_11 ⟨by decide +kernel, by decide +kernel⟩) hS (fun q _ h => hFc q h) hFc (fun q _ h => hFc q h) (fun E ce q9 u t H1 locs ht hvm hw hB hz1 hk1 hS hce hcv hcl => ?_) (fun r u t H1 locs ht hvm hw hB hz1 hk1 hS => ?_)
  · obtain ⟨⟨hne, hE⟩, x2, ds2, hk2, hP1, hK1, hD1⟩ := hB
    rw [ht] at hP1
    obtain ⟨hP, hD⟩ := fr_wld (W2 := (([(ho, .inl (cO, 1, .inr (.inl (fo))))] : va_W) ++ kW h0 cB cD cR x2 ds2)) (A := A) (fun q hq => hA q (Nat.le_trans hS0.1 hq)) hP hD List.perm_append_comm hk1 hP1 hD1 (kz List.perm_append_comm)
    clear hPc hDc hKc hFc hP1 hD1 hK1 hk1 hS0
    have hcd : (sFeed σ a1 a2 a3 a4 a5).2.1 = 1 := cd_feed.resolve_left hne
    have hE : E = "java/lang/IllegalStateException" := hE
    subst hE
    refine vx_catch (name := "java/lang/IllegalStateException") hown [] ⟨0, 23, 26, 13⟩ [] (htab.trans rfl) (fun z hz => by cases hz) (by decide) (by decide) (hw0 (.classLink "TextKeeperLaw" 13 "java/lang/IllegalStateException") (List.mem_of_getElem? (i := 431) rfl)) (va_Nw.use rfl (hN.1 (.castable "java/lang/IllegalStateException" "java/lang/IllegalStateException") (List.mem_of_getElem? (i := 11) rfl))) hce hcv hcl ?_
    refine W.eq (g2 := F0 m 26 ls [.ref q9]) rfl ?_
    generalize H1 = H at hP hS hce ⊢
    refine W.widen (k := 2) (n := 264) (by decide +kernel) (by decide +kernel) ?_
    refine lv_astore (lv' := [(7, .ref q9), (0, .ref h0), (1, .int a1), (2, .int a2), (3, .int a3), (4, .int a4), (5, .int a5), (6, .ref ho)]) hx hb d_L_feed_26 hl (by decide) rfl (fun ls hl => ?_)
    refine lv_iconst (v := 1) hx hb d_L_feed_28 (by decide) ?_
    exact W.iret (v := 1) hx hb hr (fun t ht hW => ⟨⟨1, (), rfl, hcd.symm, fo, x2, ds2, ⟨hk2, fun h => absurd h hne⟩, by rw [ht]; exact hP, va_K.moved hW.alike hK, hD⟩, hS.F ht⟩) hS.2.2 d_L_feed_29
  · obtain ⟨hc0, hr0⟩ : (sFeed σ a1 a2 a3 a4 a5).2.1 = 0 ∧ r = (sFeed σ a1 a2 a3 a4 a5).2.2 := hw
    obtain ⟨x2, ds2, hk2, hP1, hK1, hD1⟩ := hB
    rw [ht] at hP1
    obtain ⟨hP, hD⟩ := fr_wld (W2 := (([(ho, .inl (cO, 1, .inr (.inl (fo))))] : va_W) ++ kW h0 cB cD cR x2 ds2)) (A := A) (fun q hq => hA q (Nat.le_trans hS0.1 hq)) hP hD List.perm_append_comm hk1 hP1 hD1 (kz List.perm_append_comm)
    clear hPc hDc hKc hFc hP1 hD1 hK1 hk1 hS0
    generalize H1 = H at hP hS ⊢
    refine W.widen (k := 2) (n := 264) (by decide +kernel) (by decide +kernel) ?_
    refine lv_if_eq (tgt := 21) hx hb d_L_feed_14 (by decide) (fun c_1 => ?_) (fun c_1 => ?_)
    · refine lv_lconst (v := 0) hx hb d_L_feed_21 (by decide) ?_
      refine va_last hx hb hK hP hD hS 0 0 rfl rfl (by unfold vp_in; decide +kernel) d_L_feed_22 (fun H locs hP hD hS => ?_)
      replace hP : va_P (dC, dI) vwCl (([(ho, .inl (cO, 1, .inr (.inl (vp_updL (fo) (Int32.toNatClampNeg 0) (0)))))] : va_W) ++ kW h0 cB cD cR x2 ds2) H := hP
      replace hD : va_D A (([(ho, .inl (cO, 1, .inr (.inl (vp_updL (fo) (Int32.toNatClampNeg 0) (0)))))] : va_W) ++ kW h0 cB cD cR x2 ds2) := hD
      refine lv_goto (tgt := 30) hx hb d_L_feed_23 (by decide) ?_
      refine lv_iconst (v := 0) hx hb d_L_feed_30 (by decide) ?_
      exact W.iret (v := 0) hx hb hr (fun t ht hW => ⟨⟨0, (), rfl, hc0.symm, (vp_updL (fo) (Int32.toNatClampNeg 0) (0)), x2, ds2, ⟨hk2, fun _ => x_up0.trans (by rw [← hr0]; exact (if_pos c_1).symm)⟩, by rw [ht]; exact hP, va_K.moved hW.alike hK, hD⟩, hS.F ht⟩) hS.2.2 d_L_feed_31
    · refine lv_lconst (v := 1) hx hb d_L_feed_17 (by decide) ?_
      refine lv_goto (tgt := 22) hx hb d_L_feed_18 (by decide) ?_
      refine va_last hx hb hK hP hD hS 0 0 rfl rfl (by unfold vp_in; decide +kernel) d_L_feed_22 (fun H locs hP hD hS => ?_)
      replace hP : va_P (dC, dI) vwCl (([(ho, .inl (cO, 1, .inr (.inl (vp_updL (fo) (Int32.toNatClampNeg 0) (1)))))] : va_W) ++ kW h0 cB cD cR x2 ds2) H := hP
      replace hD : va_D A (([(ho, .inl (cO, 1, .inr (.inl (vp_updL (fo) (Int32.toNatClampNeg 0) (1)))))] : va_W) ++ kW h0 cB cD cR x2 ds2) := hD
      refine lv_goto (tgt := 30) hx hb d_L_feed_23 (by decide) ?_
      refine lv_iconst (v := 0) hx hb d_L_feed_30 (by decide) ?_
      exact W.iret (v := 0) hx hb hr (fun t ht hW => ⟨⟨0, (), rfl, hc0.symm, (vp_updL (fo) (Int32.toNatClampNeg 0) (1)), x2, ds2, ⟨hk2, fun _ => x_up0.trans (by rw [← hr0]; exact (if_neg c_1).symm)⟩, by rw [ht]; exact hP, va_K.moved hW.alike hK, hD⟩, hS.F ht⟩) hS.2.2 d_L_feed_31
set_option maxHeartbeats 4000000 in
set_option maxRecDepth 100000 in
theorem w_end (l : Launch) (hl9 : l.stackTraces = false) (dC : Nat → ClassId) (dI : Nat → Nat → Nat) (sz : Nat) (h0 ho : Nat) (cB cD cR cO : ClassId) (fo : Nat → Int64) (x : KX) (ds : Nat → Option Dc) (σ : Sg) (a1 : Int32) (hs : sOk σ) (hk : kOk σ x ds) : Met l y_L_end k_L_end ({ frames := 9, cells := 2, slots := 264, locals := 179 } : Room) (va_Pc [.ref h0, .int a1, .ref ho] (fun U => pc_E (dC, dI) (([(ho, .inl (cO, 1, .inr (.inl (fo))))] : va_W) ++ kW h0 cB cD cR x ds) [(cO, .long), (cB, .byte), (cD, .object R_D), (cR, .object R_V)] sz U ∧ tw_ok U)) (va_Qi (fun (r : Int32) (_ : Unit) => r = (sEnd σ a1).2.1) (fun (_ : Unit) t => ∃ (fo2 : Nat → Int64) (x2 : KX) (ds2 : Nat → Option Dc), (kOk (sEnd σ a1).1 x2 ds2 ∧ ((sEnd σ a1).2.1 = 0 → fo2 0 = (if (sEnd σ a1).2.2 = 0 then 0 else 1))) ∧ at_E (dC, dI) (va_A (([(ho, .inl (cO, 1, .inr (.inl (fo))))] : va_W) ++ kW h0 cB cD cR x ds) sz) (([(ho, .inl (cO, 1, .inr (.inl (fo2))))] : va_W) ++ kW h0 cB cD cR x2 ds2) [(cO, .long), (cB, .byte), (cD, .object R_D), (cR, .object R_V)] t) (va_A (([(ho, .inl (cO, 1, .inr (.inl (fo))))] : va_W) ++ kW h0 cB cD cR x ds) sz)) 2 264 (va_A (([(ho, .inl (cO, 1, .inr (.inl (fo))))] : va_W) ++ kW h0 cB cD cR x ds) sz) := by
  refine va_MetW (hh := [(0, 16, 19, 13)]) (cc := method_4_code) (maxL := 4) (ret := (some .int)) (by decide) rfl ?_
  intro p e s m args below meth c s₁ B hml hv
  obtain ⟨rfl, ⟨hsz, hP, hK, hD0, hN⟩, hTw⟩ := hv
  have hx := B.exec
  have hb := B.bytes
  have hr := B.returns
  have hts := atoms_spec (ws := k_L_end) B.pre
  have hw0 : ∀ w ∈ w0, w.before _ s = true := fun w h => hts w (List.mem_cons_of_mem _ h)
  have hown : s.vm.findClass R_L = some m.cls := findClass_of_methodNamed B.named
  have hlocks := B.notSynchronized
  have htab := vx_table (x := y_L_end) B (hts (.codeWith y_L_end method_4_code 4 (some .int) [(0, 16, 19, 13)]) List.mem_cons_self)
  subst hsz
  have hD := hD0.self (sz := s.heap.size)
  generalize hAe : va_A (([(ho, .inl (cO, 1, .inr (.inl (fo))))] : va_W) ++ kW h0 cB cD cR x ds) s.heap.size = A at hD ⊢
  have hA : ∀ q : Nat, s.heap.size ≤ q → A q := fun q h => by rw [← hAe]; exact Or.inr h
  clear hAe hD0
  have hS : va_S A s.heap s.heap [] := va_S.rf
  have hl := lv_entry ([.ref h0, .int a1, .ref ho]) (n := 4) (Nat.le_of_ble_eq_true rfl)
  rw [lg_entry_eq]
  generalize (lg_sl ([.ref h0, .int a1, .ref ho]) ++ List.replicate (4 - (lg_sl ([.ref h0, .int a1, .ref ho])).length) Slot.unset).toArray = ls at hl ⊢
  have hl : lv_has ls 4 [(0, .ref h0), (1, .int a1), (2, .ref ho)] := hl
  refine lv_aload_n hx hb d_L_end_0 rfl (lv_at hl 2 rfl) ?_
  refine lv_iconst (v := 0) hx hb d_L_end_1 (by decide) ?_
  refine lv_aload_n hx hb d_L_end_2 rfl (lv_at hl 0 rfl) ?_
  refine lv_iload_n hx hb d_L_end_3 rfl (lv_at hl 1 rfl) ?_
  have hPc : va_P (dC, dI) vwCl (kW h0 cB cD cR x ds) s.heap := (hP.perm List.perm_append_comm).left
  have hDc : va_D A (kW h0 cB cD cR x ds) := (hD.perm List.perm_append_comm).left
  have hKc : va_K (dC, dI) vwCl (kT cB cD cR) s := hK.sub [1, 2, 3] rfl
  have hFc : ∀ q : Nat, va_A (kW h0 cB cD cR x ds) s.heap.size q → A q := fr_free hD hS hA List.perm_append_comm
  have hS0 := hS
  refine vx_calli (vx_runV (As := [.int a1]) (rest := [.int 0, .ref ho]) ⟨hx, hb, hml, hown, hw0⟩ (kMet.out (k_end l hl9 dC dI s.heap.size h0 cB cD cR x ds σ a1 hs hk)) (cwV 1 hw0 (gd_V 525 526 527 226 681 rfl rfl rfl rfl rfl) rfl rfl rfl (by decide +kernel) ⟨by decide +kernel, by decide +kernel⟩) (prV_T hPc hKc hDc hN hTw (fun _ _ => rfl) (va_recv hKc hPc (ci := 0) (q0 := 0) rfl rfl)) rfl rfl hl.1 rfl (lv_room (Nat.le_of_ble_eq_true rfl)) d_L_end_4 ⟨by decide +kernel, by decide +kernel⟩) hS (fun q _ h => hFc q h) hFc (fun q _ h => hFc q h) (fun E ce q9 u t H1 locs ht hvm hw hB hz1 hk1 hS hce hcv hcl => ?_) (fun r u t H1 locs ht hvm hw hB hz1 hk1 hS => ?_)
  · obtain ⟨⟨hne, hE⟩, x2, ds2, hk2, hP1, hK1, hD1⟩ := hB
    rw [ht] at hP1
    obtain ⟨hP, hD⟩ := fr_wld (W2 := (([(ho, .inl (cO, 1, .inr (.inl (fo))))] : va_W) ++ kW h0 cB cD cR x2 ds2)) (A := A) (fun q hq => hA q (Nat.le_trans hS0.1 hq)) hP hD List.perm_append_comm hk1 hP1 hD1 (kz List.perm_append_comm)
    clear hPc hDc hKc hFc hP1 hD1 hK1 hk1 hS0
    have hcd : (sEnd σ a1).2.1 = 1 := cd_end.resolve_left hne
    have hE : E = "java/lang/IllegalStateException" := hE
    subst hE
    refine vx_catch (name := "java/lang/IllegalStateException") hown [] ⟨0, 16, 19, 13⟩ [] (htab.trans rfl) (fun z hz => by cases hz) (by decide) (by decide) (hw0 (.classLink "TextKeeperLaw" 13 "java/lang/IllegalStateException") (List.mem_of_getElem? (i := 431) rfl)) (va_Nw.use rfl (hN.1 (.castable "java/lang/IllegalStateException" "java/lang/IllegalStateException") (List.mem_of_getElem? (i := 11) rfl))) hce hcv hcl ?_
    refine W.eq (g2 := F0 m 19 ls [.ref q9]) rfl ?_
    generalize H1 = H at hP hS hce ⊢
    refine W.widen (k := 2) (n := 264) (by decide +kernel) (by decide +kernel) ?_
    refine lv_astore_n (lv' := [(3, .ref q9), (0, .ref h0), (1, .int a1), (2, .ref ho)]) hx hb d_L_end_19 rfl hl (by decide) rfl (fun ls hl => ?_)
    refine lv_iconst (v := 1) hx hb d_L_end_20 (by decide) ?_
    exact W.iret (v := 1) hx hb hr (fun t ht hW => ⟨⟨1, (), rfl, hcd.symm, fo, x2, ds2, ⟨hk2, fun h => absurd h hne⟩, by rw [ht]; exact hP, va_K.moved hW.alike hK, hD⟩, hS.F ht⟩) hS.2.2 d_L_end_21
  · obtain ⟨hc0, hr0⟩ : (sEnd σ a1).2.1 = 0 ∧ r = (sEnd σ a1).2.2 := hw
    obtain ⟨x2, ds2, hk2, hP1, hK1, hD1⟩ := hB
    rw [ht] at hP1
    obtain ⟨hP, hD⟩ := fr_wld (W2 := (([(ho, .inl (cO, 1, .inr (.inl (fo))))] : va_W) ++ kW h0 cB cD cR x2 ds2)) (A := A) (fun q hq => hA q (Nat.le_trans hS0.1 hq)) hP hD List.perm_append_comm hk1 hP1 hD1 (kz List.perm_append_comm)
    clear hPc hDc hKc hFc hP1 hD1 hK1 hk1 hS0
    generalize H1 = H at hP hS ⊢
    refine W.widen (k := 2) (n := 264) (by decide +kernel) (by decide +kernel) ?_
    refine lv_if_eq (tgt := 14) hx hb d_L_end_7 (by decide) (fun c_1 => ?_) (fun c_1 => ?_)
    · refine lv_lconst (v := 0) hx hb d_L_end_14 (by decide) ?_
      refine va_last hx hb hK hP hD hS 0 0 rfl rfl (by unfold vp_in; decide +kernel) d_L_end_15 (fun H locs hP hD hS => ?_)
      replace hP : va_P (dC, dI) vwCl (([(ho, .inl (cO, 1, .inr (.inl (vp_updL (fo) (Int32.toNatClampNeg 0) (0)))))] : va_W) ++ kW h0 cB cD cR x2 ds2) H := hP
      replace hD : va_D A (([(ho, .inl (cO, 1, .inr (.inl (vp_updL (fo) (Int32.toNatClampNeg 0) (0)))))] : va_W) ++ kW h0 cB cD cR x2 ds2) := hD
      refine lv_goto (tgt := 22) hx hb d_L_end_16 (by decide) ?_
      refine lv_iconst (v := 0) hx hb d_L_end_22 (by decide) ?_
      exact W.iret (v := 0) hx hb hr (fun t ht hW => ⟨⟨0, (), rfl, hc0.symm, (vp_updL (fo) (Int32.toNatClampNeg 0) (0)), x2, ds2, ⟨hk2, fun _ => x_up0.trans (by rw [← hr0]; exact (if_pos c_1).symm)⟩, by rw [ht]; exact hP, va_K.moved hW.alike hK, hD⟩, hS.F ht⟩) hS.2.2 d_L_end_23
    · refine lv_lconst (v := 1) hx hb d_L_end_10 (by decide) ?_
      refine lv_goto (tgt := 15) hx hb d_L_end_11 (by decide) ?_
      refine va_last hx hb hK hP hD hS 0 0 rfl rfl (by unfold vp_in; decide +kernel) d_L_end_15 (fun H locs hP hD hS => ?_)
      replace hP : va_P (dC, dI) vwCl (([(ho, .inl (cO, 1, .inr (.inl (vp_updL (fo) (Int32.toNatClampNeg 0) (1)))))] : va_W) ++ kW h0 cB cD cR x2 ds2) H := hP
      replace hD : va_D A (([(ho, .inl (cO, 1, .inr (.inl (vp_updL (fo) (Int32.toNatClampNeg 0) (1)))))] : va_W) ++ kW h0 cB cD cR x2 ds2) := hD
      refine lv_goto (tgt := 22) hx hb d_L_end_16 (by decide) ?_
      refine lv_iconst (v := 0) hx hb d_L_end_22 (by decide) ?_
      exact W.iret (v := 0) hx hb hr (fun t ht hW => ⟨⟨0, (), rfl, hc0.symm, (vp_updL (fo) (Int32.toNatClampNeg 0) (1)), x2, ds2, ⟨hk2, fun _ => x_up0.trans (by rw [← hr0]; exact (if_neg c_1).symm)⟩, by rw [ht]; exact hP, va_K.moved hW.alike hK, hD⟩, hS.F ht⟩) hS.2.2 d_L_end_23
set_option maxHeartbeats 4000000 in
set_option maxRecDepth 100000 in
theorem w_make (l : Launch) (hl9 : l.stackTraces = false) (dC : Nat → ClassId) (dI : Nat → Nat → Nat) (sz : Nat) (h0 ho : Nat) (cB cD cR cO : ClassId) (fo : Nat → Int64) (x : KX) (ds : Nat → Option Dc) (σ : Sg) (hs : sOk σ) (hk : kOk σ x ds) : Met l y_L_make k_L_make ({ frames := 9, cells := 2, slots := 264, locals := 179 } : Room) (va_Pc [.ref h0, .ref ho] (fun U => pc_E (dC, dI) (([(ho, .inl (cO, 1, .inr (.inl (fo))))] : va_W) ++ kW h0 cB cD cR x ds) [(cO, .long), (cB, .byte), (cD, .object R_D), (cR, .object R_V)] sz U ∧ tw_ok U)) (va_Qi (fun (r : Int32) (_ : Unit) => r = (sMake σ).2.1) (fun (_ : Unit) t => ∃ (fo2 : Nat → Int64) (x2 : KX) (ds2 : Nat → Option Dc), (kOk (sMake σ).1 x2 ds2 ∧ ((sMake σ).2.1 = 0 → fo2 0 = (sMake σ).2.2.toInt64)) ∧ at_E (dC, dI) (va_A (([(ho, .inl (cO, 1, .inr (.inl (fo))))] : va_W) ++ kW h0 cB cD cR x ds) sz) (([(ho, .inl (cO, 1, .inr (.inl (fo2))))] : va_W) ++ kW h0 cB cD cR x2 ds2) [(cO, .long), (cB, .byte), (cD, .object R_D), (cR, .object R_V)] t) (va_A (([(ho, .inl (cO, 1, .inr (.inl (fo))))] : va_W) ++ kW h0 cB cD cR x ds) sz)) 2 264 (va_A (([(ho, .inl (cO, 1, .inr (.inl (fo))))] : va_W) ++ kW h0 cB cD cR x ds) sz) := by
  refine va_MetW (hh := [(0, 8, 11, 13)]) (cc := method_5_code) (maxL := 3) (ret := (some .int)) (by decide) rfl ?_
  intro p e s m args below meth c s₁ B hml hv
  obtain ⟨rfl, ⟨hsz, hP, hK, hD0, hN⟩, hTw⟩ := hv
  have hx := B.exec
  have hb := B.bytes
  have hr := B.returns
  have hts := atoms_spec (ws := k_L_make) B.pre
  have hw0 : ∀ w ∈ w0, w.before _ s = true := fun w h => hts w (List.mem_cons_of_mem _ h)
  have hown : s.vm.findClass R_L = some m.cls := findClass_of_methodNamed B.named
  have hlocks := B.notSynchronized
  have htab := vx_table (x := y_L_make) B (hts (.codeWith y_L_make method_5_code 3 (some .int) [(0, 8, 11, 13)]) List.mem_cons_self)
  subst hsz
  have hD := hD0.self (sz := s.heap.size)
  generalize hAe : va_A (([(ho, .inl (cO, 1, .inr (.inl (fo))))] : va_W) ++ kW h0 cB cD cR x ds) s.heap.size = A at hD ⊢
  have hA : ∀ q : Nat, s.heap.size ≤ q → A q := fun q h => by rw [← hAe]; exact Or.inr h
  clear hAe hD0
  have hS : va_S A s.heap s.heap [] := va_S.rf
  have hl := lv_entry ([.ref h0, .ref ho]) (n := 3) (Nat.le_of_ble_eq_true rfl)
  rw [lg_entry_eq]
  generalize (lg_sl ([.ref h0, .ref ho]) ++ List.replicate (3 - (lg_sl ([.ref h0, .ref ho])).length) Slot.unset).toArray = ls at hl ⊢
  have hl : lv_has ls 3 [(0, .ref h0), (1, .ref ho)] := hl
  refine lv_aload_n hx hb d_L_make_0 rfl (lv_at hl 1 rfl) ?_
  refine lv_iconst (v := 0) hx hb d_L_make_1 (by decide) ?_
  refine lv_aload_n hx hb d_L_make_2 rfl (lv_at hl 0 rfl) ?_
  have hPc : va_P (dC, dI) vwCl (kW h0 cB cD cR x ds) s.heap := (hP.perm List.perm_append_comm).left
  have hDc : va_D A (kW h0 cB cD cR x ds) := (hD.perm List.perm_append_comm).left
  have hKc : va_K (dC, dI) vwCl (kT cB cD cR) s := hK.sub [1, 2, 3] rfl
  have hFc : ∀ q : Nat, va_A (kW h0 cB cD cR x ds) s.heap.size q → A q := fr_free hD hS hA List.perm_append_comm
  have hS0 := hS
  refine vx_calli (vx_runV (As := []) (rest := [.int 0, .ref ho]) ⟨hx, hb, hml, hown, hw0⟩ (kMet.out (k_make l hl9 dC dI s.heap.size h0 cB cD cR x ds σ hs hk)) (cwV 0 hw0 (gd_V 530 531 532 226 683 rfl rfl rfl rfl rfl) rfl rfl rfl (by decide +kernel) ⟨by decide +kernel, by decide +kernel⟩) (prV_T hPc hKc hDc hN hTw (fun _ _ => rfl) (va_recv hKc hPc (ci := 0) (q0 := 0) rfl rfl)) rfl rfl hl.1 rfl (lv_room (Nat.le_of_ble_eq_true rfl)) d_L_make_3 ⟨by decide +kernel, by decide +kernel⟩) hS (fun q _ h => hFc q h) hFc (fun q _ h => hFc q h) (fun E ce q9 u t H1 locs ht hvm hw hB hz1 hk1 hS hce hcv hcl => ?_) (fun r u t H1 locs ht hvm hw hB hz1 hk1 hS => ?_)
  · obtain ⟨⟨hne, hE⟩, x2, ds2, hk2, hP1, hK1, hD1⟩ := hB
    rw [ht] at hP1
    obtain ⟨hP, hD⟩ := fr_wld (W2 := (([(ho, .inl (cO, 1, .inr (.inl (fo))))] : va_W) ++ kW h0 cB cD cR x2 ds2)) (A := A) (fun q hq => hA q (Nat.le_trans hS0.1 hq)) hP hD List.perm_append_comm hk1 hP1 hD1 (kz List.perm_append_comm)
    clear hPc hDc hKc hFc hP1 hD1 hK1 hk1 hS0
    have hcd : (sMake σ).2.1 = 1 := cd_make.resolve_left hne
    have hE : E = "java/lang/IllegalStateException" := hE
    subst hE
    refine vx_catch (name := "java/lang/IllegalStateException") hown [] ⟨0, 8, 11, 13⟩ [] (htab.trans rfl) (fun z hz => by cases hz) (by decide) (by decide) (hw0 (.classLink "TextKeeperLaw" 13 "java/lang/IllegalStateException") (List.mem_of_getElem? (i := 431) rfl)) (va_Nw.use rfl (hN.1 (.castable "java/lang/IllegalStateException" "java/lang/IllegalStateException") (List.mem_of_getElem? (i := 11) rfl))) hce hcv hcl ?_
    refine W.eq (g2 := F0 m 11 ls [.ref q9]) rfl ?_
    generalize H1 = H at hP hS hce ⊢
    refine W.widen (k := 2) (n := 264) (by decide +kernel) (by decide +kernel) ?_
    refine lv_astore_n (lv' := [(2, .ref q9), (0, .ref h0), (1, .ref ho)]) hx hb d_L_make_11 rfl hl (by decide) rfl (fun ls hl => ?_)
    refine lv_iconst (v := 1) hx hb d_L_make_12 (by decide) ?_
    exact W.iret (v := 1) hx hb hr (fun t ht hW => ⟨⟨1, (), rfl, hcd.symm, fo, x2, ds2, ⟨hk2, fun h => absurd h hne⟩, by rw [ht]; exact hP, va_K.moved hW.alike hK, hD⟩, hS.F ht⟩) hS.2.2 d_L_make_13
  · obtain ⟨hc0, hr0⟩ : (sMake σ).2.1 = 0 ∧ r = (sMake σ).2.2 := hw
    obtain ⟨x2, ds2, hk2, hP1, hK1, hD1⟩ := hB
    rw [ht] at hP1
    obtain ⟨hP, hD⟩ := fr_wld (W2 := (([(ho, .inl (cO, 1, .inr (.inl (fo))))] : va_W) ++ kW h0 cB cD cR x2 ds2)) (A := A) (fun q hq => hA q (Nat.le_trans hS0.1 hq)) hP hD List.perm_append_comm hk1 hP1 hD1 (kz List.perm_append_comm)
    clear hPc hDc hKc hFc hP1 hD1 hK1 hk1 hS0
    generalize H1 = H at hP hS ⊢
    refine W.widen (k := 2) (n := 264) (by decide +kernel) (by decide +kernel) ?_
    refine lv_i2l (v := r.toInt64) hx hb d_L_make_6 rfl ?_
    refine va_last hx hb hK hP hD hS 0 0 rfl rfl (by unfold vp_in; decide +kernel) d_L_make_7 (fun H locs hP hD hS => ?_)
    replace hP : va_P (dC, dI) vwCl (([(ho, .inl (cO, 1, .inr (.inl (vp_updL (fo) (Int32.toNatClampNeg 0) (r.toInt64)))))] : va_W) ++ kW h0 cB cD cR x2 ds2) H := hP
    replace hD : va_D A (([(ho, .inl (cO, 1, .inr (.inl (vp_updL (fo) (Int32.toNatClampNeg 0) (r.toInt64)))))] : va_W) ++ kW h0 cB cD cR x2 ds2) := hD
    refine lv_goto (tgt := 14) hx hb d_L_make_8 (by decide) ?_
    refine lv_iconst (v := 0) hx hb d_L_make_14 (by decide) ?_
    exact W.iret (v := 0) hx hb hr (fun t ht hW => ⟨⟨0, (), rfl, hc0.symm, (vp_updL (fo) (Int32.toNatClampNeg 0) (r.toInt64)), x2, ds2, ⟨hk2, fun _ => x_up0.trans (by rw [hr0])⟩, by rw [ht]; exact hP, va_K.moved hW.alike hK, hD⟩, hS.F ht⟩) hS.2.2 d_L_make_15
set_option maxHeartbeats 4000000 in
set_option maxRecDepth 100000 in
theorem w_commit (l : Launch) (hl9 : l.stackTraces = false) (dC : Nat → ClassId) (dI : Nat → Nat → Nat) (sz : Nat) (h0 ho : Nat) (cB cD cR cO : ClassId) (fo : Nat → Int64) (x : KX) (ds : Nat → Option Dc) (σ : Sg) (a1 : Int32) (a2 : Int32) (hs : sOk σ) (hk : kOk σ x ds) : Met l y_L_commit k_L_commit ({ frames := 9, cells := 2, slots := 264, locals := 179 } : Room) (va_Pc [.ref h0, .int a1, .int a2, .ref ho] (fun U => pc_E (dC, dI) (([(ho, .inl (cO, 1, .inr (.inl (fo))))] : va_W) ++ kW h0 cB cD cR x ds) [(cO, .long), (cB, .byte), (cD, .object R_D), (cR, .object R_V)] sz U ∧ tw_ok U)) (va_Qi (fun (r : Int32) (_ : Unit) => r = (sCommit σ a1 a2).2.1) (fun (_ : Unit) t => ∃ (fo2 : Nat → Int64) (x2 : KX) (ds2 : Nat → Option Dc), (kOk (sCommit σ a1 a2).1 x2 ds2 ∧ ((sCommit σ a1 a2).2.1 = 0 → fo2 0 = (sCommit σ a1 a2).2.2.toInt64)) ∧ at_E (dC, dI) (va_A (([(ho, .inl (cO, 1, .inr (.inl (fo))))] : va_W) ++ kW h0 cB cD cR x ds) sz) (([(ho, .inl (cO, 1, .inr (.inl (fo2))))] : va_W) ++ kW h0 cB cD cR x2 ds2) [(cO, .long), (cB, .byte), (cD, .object R_D), (cR, .object R_V)] t) (va_A (([(ho, .inl (cO, 1, .inr (.inl (fo))))] : va_W) ++ kW h0 cB cD cR x ds) sz)) 2 264 (va_A (([(ho, .inl (cO, 1, .inr (.inl (fo))))] : va_W) ++ kW h0 cB cD cR x ds) sz) := by
  refine va_MetW (hh := [(0, 10, 13, 13)]) (cc := method_6_code) (maxL := 5) (ret := (some .int)) (by decide) rfl ?_
  intro p e s m args below meth c s₁ B hml hv
  obtain ⟨rfl, ⟨hsz, hP, hK, hD0, hN⟩, hTw⟩ := hv
  have hx := B.exec
  have hb := B.bytes
  have hr := B.returns
  have hts := atoms_spec (ws := k_L_commit) B.pre
  have hw0 : ∀ w ∈ w0, w.before _ s = true := fun w h => hts w (List.mem_cons_of_mem _ h)
  have hown : s.vm.findClass R_L = some m.cls := findClass_of_methodNamed B.named
  have hlocks := B.notSynchronized
  have htab := vx_table (x := y_L_commit) B (hts (.codeWith y_L_commit method_6_code 5 (some .int) [(0, 10, 13, 13)]) List.mem_cons_self)
  subst hsz
  have hD := hD0.self (sz := s.heap.size)
  generalize hAe : va_A (([(ho, .inl (cO, 1, .inr (.inl (fo))))] : va_W) ++ kW h0 cB cD cR x ds) s.heap.size = A at hD ⊢
  have hA : ∀ q : Nat, s.heap.size ≤ q → A q := fun q h => by rw [← hAe]; exact Or.inr h
  clear hAe hD0
  have hS : va_S A s.heap s.heap [] := va_S.rf
  have hl := lv_entry ([.ref h0, .int a1, .int a2, .ref ho]) (n := 5) (Nat.le_of_ble_eq_true rfl)
  rw [lg_entry_eq]
  generalize (lg_sl ([.ref h0, .int a1, .int a2, .ref ho]) ++ List.replicate (5 - (lg_sl ([.ref h0, .int a1, .int a2, .ref ho])).length) Slot.unset).toArray = ls at hl ⊢
  have hl : lv_has ls 5 [(0, .ref h0), (1, .int a1), (2, .int a2), (3, .ref ho)] := hl
  refine lv_aload_n hx hb d_L_commit_0 rfl (lv_at hl 3 rfl) ?_
  refine lv_iconst (v := 0) hx hb d_L_commit_1 (by decide) ?_
  refine lv_aload_n hx hb d_L_commit_2 rfl (lv_at hl 0 rfl) ?_
  refine lv_iload_n hx hb d_L_commit_3 rfl (lv_at hl 1 rfl) ?_
  refine lv_iload_n hx hb d_L_commit_4 rfl (lv_at hl 2 rfl) ?_
  have hPc : va_P (dC, dI) vwCl (kW h0 cB cD cR x ds) s.heap := (hP.perm List.perm_append_comm).left
  have hDc : va_D A (kW h0 cB cD cR x ds) := (hD.perm List.perm_append_comm).left
  have hKc : va_K (dC, dI) vwCl (kT cB cD cR) s := hK.sub [1, 2, 3] rfl
  have hFc : ∀ q : Nat, va_A (kW h0 cB cD cR x ds) s.heap.size q → A q := fr_free hD hS hA List.perm_append_comm
  have hS0 := hS
  refine vx_calli (vx_runV (As := [.int a1, .int a2]) (rest := [.int 0, .ref ho]) ⟨hx, hb, hml, hown, hw0⟩ (kMet.out (k_commit l hl9 dC dI s.heap.size h0 cB cD cR x ds σ a1 a2 hs hk)) (cwV 2 hw0 (gd_V 535 536 537 226 685 rfl rfl rfl rfl rfl) rfl rfl rfl (by decide +kernel) ⟨by decide +kernel, by decide +kernel⟩) (prV_T hPc hKc hDc hN hTw (fun _ _ => rfl) (va_recv hKc hPc (ci := 0) (q0 := 0) rfl rfl)) rfl rfl hl.1 rfl (lv_room (Nat.le_of_ble_eq_true rfl)) d_L_commit_5 ⟨by decide +kernel, by decide +kernel⟩) hS (fun q _ h => hFc q h) hFc (fun q _ h => hFc q h) (fun E ce q9 u t H1 locs ht hvm hw hB hz1 hk1 hS hce hcv hcl => ?_) (fun r u t H1 locs ht hvm hw hB hz1 hk1 hS => ?_)
  · obtain ⟨⟨hne, hE⟩, x2, ds2, hk2, hP1, hK1, hD1⟩ := hB
    rw [ht] at hP1
    obtain ⟨hP, hD⟩ := fr_wld (W2 := (([(ho, .inl (cO, 1, .inr (.inl (fo))))] : va_W) ++ kW h0 cB cD cR x2 ds2)) (A := A) (fun q hq => hA q (Nat.le_trans hS0.1 hq)) hP hD List.perm_append_comm hk1 hP1 hD1 (kz List.perm_append_comm)
    clear hPc hDc hKc hFc hP1 hD1 hK1 hk1 hS0
    have hcd : (sCommit σ a1 a2).2.1 = 1 := cd_commit.resolve_left hne
    have hE : E = "java/lang/IllegalStateException" := hE
    subst hE
    refine vx_catch (name := "java/lang/IllegalStateException") hown [] ⟨0, 10, 13, 13⟩ [] (htab.trans rfl) (fun z hz => by cases hz) (by decide) (by decide) (hw0 (.classLink "TextKeeperLaw" 13 "java/lang/IllegalStateException") (List.mem_of_getElem? (i := 431) rfl)) (va_Nw.use rfl (hN.1 (.castable "java/lang/IllegalStateException" "java/lang/IllegalStateException") (List.mem_of_getElem? (i := 11) rfl))) hce hcv hcl ?_
    refine W.eq (g2 := F0 m 13 ls [.ref q9]) rfl ?_
    generalize H1 = H at hP hS hce ⊢
    refine W.widen (k := 2) (n := 264) (by decide +kernel) (by decide +kernel) ?_
    refine lv_astore (lv' := [(4, .ref q9), (0, .ref h0), (1, .int a1), (2, .int a2), (3, .ref ho)]) hx hb d_L_commit_13 hl (by decide) rfl (fun ls hl => ?_)
    refine lv_iconst (v := 1) hx hb d_L_commit_15 (by decide) ?_
    exact W.iret (v := 1) hx hb hr (fun t ht hW => ⟨⟨1, (), rfl, hcd.symm, fo, x2, ds2, ⟨hk2, fun h => absurd h hne⟩, by rw [ht]; exact hP, va_K.moved hW.alike hK, hD⟩, hS.F ht⟩) hS.2.2 d_L_commit_16
  · obtain ⟨hc0, hr0⟩ : (sCommit σ a1 a2).2.1 = 0 ∧ r = (sCommit σ a1 a2).2.2 := hw
    obtain ⟨x2, ds2, hk2, hP1, hK1, hD1⟩ := hB
    rw [ht] at hP1
    obtain ⟨hP, hD⟩ := fr_wld (W2 := (([(ho, .inl (cO, 1, .inr (.inl (fo))))] : va_W) ++ kW h0 cB cD cR x2 ds2)) (A := A) (fun q hq => hA q (Nat.le_trans hS0.1 hq)) hP hD List.perm_append_comm hk1 hP1 hD1 (kz List.perm_append_comm)
    clear hPc hDc hKc hFc hP1 hD1 hK1 hk1 hS0
    generalize H1 = H at hP hS ⊢
    refine W.widen (k := 2) (n := 264) (by decide +kernel) (by decide +kernel) ?_
    refine lv_i2l (v := r.toInt64) hx hb d_L_commit_8 rfl ?_
    refine va_last hx hb hK hP hD hS 0 0 rfl rfl (by unfold vp_in; decide +kernel) d_L_commit_9 (fun H locs hP hD hS => ?_)
    replace hP : va_P (dC, dI) vwCl (([(ho, .inl (cO, 1, .inr (.inl (vp_updL (fo) (Int32.toNatClampNeg 0) (r.toInt64)))))] : va_W) ++ kW h0 cB cD cR x2 ds2) H := hP
    replace hD : va_D A (([(ho, .inl (cO, 1, .inr (.inl (vp_updL (fo) (Int32.toNatClampNeg 0) (r.toInt64)))))] : va_W) ++ kW h0 cB cD cR x2 ds2) := hD
    refine lv_goto (tgt := 17) hx hb d_L_commit_10 (by decide) ?_
    refine lv_iconst (v := 0) hx hb d_L_commit_17 (by decide) ?_
    exact W.iret (v := 0) hx hb hr (fun t ht hW => ⟨⟨0, (), rfl, hc0.symm, (vp_updL (fo) (Int32.toNatClampNeg 0) (r.toInt64)), x2, ds2, ⟨hk2, fun _ => x_up0.trans (by rw [hr0])⟩, by rw [ht]; exact hP, va_K.moved hW.alike hK, hD⟩, hS.F ht⟩) hS.2.2 d_L_commit_18
set_option maxHeartbeats 4000000 in
set_option maxRecDepth 100000 in
theorem w_fetch (l : Launch) (hl9 : l.stackTraces = false) (dC : Nat → ClassId) (dI : Nat → Nat → Nat) (sz : Nat) (h0 ho : Nat) (cB cD cR cO : ClassId) (fo : Nat → Int64) (x : KX) (ds : Nat → Option Dc) (σ : Sg) (a1 : Int32) (a2 : Int32) (hs : sOk σ) (hk : kOk σ x ds) : Met l y_L_fetch k_L_fetch ({ frames := 9, cells := 2, slots := 264, locals := 179 } : Room) (va_Pc [.ref h0, .int a1, .int a2, .ref ho] (fun U => pc_E (dC, dI) (([(ho, .inl (cO, 1, .inr (.inl (fo))))] : va_W) ++ kW h0 cB cD cR x ds) [(cO, .long), (cB, .byte), (cD, .object R_D), (cR, .object R_V)] sz U ∧ tw_ok U)) (va_Qi (fun (r : Int32) (_ : Unit) => r = (sFetch σ a1 a2).2.1) (fun (_ : Unit) t => ∃ (fo2 : Nat → Int64) (x2 : KX) (ds2 : Nat → Option Dc), (kOk (sFetch σ a1 a2).1 x2 ds2 ∧ ((sFetch σ a1 a2).2.1 = 0 → fo2 0 = (sFetch σ a1 a2).2.2.toInt64)) ∧ at_E (dC, dI) (va_A (([(ho, .inl (cO, 1, .inr (.inl (fo))))] : va_W) ++ kW h0 cB cD cR x ds) sz) (([(ho, .inl (cO, 1, .inr (.inl (fo2))))] : va_W) ++ kW h0 cB cD cR x2 ds2) [(cO, .long), (cB, .byte), (cD, .object R_D), (cR, .object R_V)] t) (va_A (([(ho, .inl (cO, 1, .inr (.inl (fo))))] : va_W) ++ kW h0 cB cD cR x ds) sz)) 2 264 (va_A (([(ho, .inl (cO, 1, .inr (.inl (fo))))] : va_W) ++ kW h0 cB cD cR x ds) sz) := by
  refine va_MetW (hh := [(0, 10, 13, 13)]) (cc := method_7_code) (maxL := 5) (ret := (some .int)) (by decide) rfl ?_
  intro p e s m args below meth c s₁ B hml hv
  obtain ⟨rfl, ⟨hsz, hP, hK, hD0, hN⟩, hTw⟩ := hv
  have hx := B.exec
  have hb := B.bytes
  have hr := B.returns
  have hts := atoms_spec (ws := k_L_fetch) B.pre
  have hw0 : ∀ w ∈ w0, w.before _ s = true := fun w h => hts w (List.mem_cons_of_mem _ h)
  have hown : s.vm.findClass R_L = some m.cls := findClass_of_methodNamed B.named
  have hlocks := B.notSynchronized
  have htab := vx_table (x := y_L_fetch) B (hts (.codeWith y_L_fetch method_7_code 5 (some .int) [(0, 10, 13, 13)]) List.mem_cons_self)
  subst hsz
  have hD := hD0.self (sz := s.heap.size)
  generalize hAe : va_A (([(ho, .inl (cO, 1, .inr (.inl (fo))))] : va_W) ++ kW h0 cB cD cR x ds) s.heap.size = A at hD ⊢
  have hA : ∀ q : Nat, s.heap.size ≤ q → A q := fun q h => by rw [← hAe]; exact Or.inr h
  clear hAe hD0
  have hS : va_S A s.heap s.heap [] := va_S.rf
  have hl := lv_entry ([.ref h0, .int a1, .int a2, .ref ho]) (n := 5) (Nat.le_of_ble_eq_true rfl)
  rw [lg_entry_eq]
  generalize (lg_sl ([.ref h0, .int a1, .int a2, .ref ho]) ++ List.replicate (5 - (lg_sl ([.ref h0, .int a1, .int a2, .ref ho])).length) Slot.unset).toArray = ls at hl ⊢
  have hl : lv_has ls 5 [(0, .ref h0), (1, .int a1), (2, .int a2), (3, .ref ho)] := hl
  refine lv_aload_n hx hb d_L_fetch_0 rfl (lv_at hl 3 rfl) ?_
  refine lv_iconst (v := 0) hx hb d_L_fetch_1 (by decide) ?_
  refine lv_aload_n hx hb d_L_fetch_2 rfl (lv_at hl 0 rfl) ?_
  refine lv_iload_n hx hb d_L_fetch_3 rfl (lv_at hl 1 rfl) ?_
  refine lv_iload_n hx hb d_L_fetch_4 rfl (lv_at hl 2 rfl) ?_
  have hPc : va_P (dC, dI) vwCl (kW h0 cB cD cR x ds) s.heap := (hP.perm List.perm_append_comm).left
  have hDc : va_D A (kW h0 cB cD cR x ds) := (hD.perm List.perm_append_comm).left
  have hKc : va_K (dC, dI) vwCl (kT cB cD cR) s := hK.sub [1, 2, 3] rfl
  have hFc : ∀ q : Nat, va_A (kW h0 cB cD cR x ds) s.heap.size q → A q := fr_free hD hS hA List.perm_append_comm
  have hS0 := hS
  refine vx_calli (vx_runV (As := [.int a1, .int a2]) (rest := [.int 0, .ref ho]) ⟨hx, hb, hml, hown, hw0⟩ (kMet.out (k_fetch l hl9 dC dI s.heap.size h0 cB cD cR x ds σ a1 a2 hs hk)) (cwV 2 hw0 (gd_V 544 545 546 226 687 rfl rfl rfl rfl rfl) rfl rfl rfl (by decide +kernel) ⟨by decide +kernel, by decide +kernel⟩) (prV_T hPc hKc hDc hN hTw (fun _ _ => rfl) (va_recv hKc hPc (ci := 0) (q0 := 0) rfl rfl)) rfl rfl hl.1 rfl (lv_room (Nat.le_of_ble_eq_true rfl)) d_L_fetch_5 ⟨by decide +kernel, by decide +kernel⟩) hS (fun q _ h => hFc q h) hFc (fun q _ h => hFc q h) (fun E ce q9 u t H1 locs ht hvm hw hB hz1 hk1 hS hce hcv hcl => ?_) (fun r u t H1 locs ht hvm hw hB hz1 hk1 hS => ?_)
  · obtain ⟨⟨hne, hE⟩, x2, ds2, hk2, hP1, hK1, hD1⟩ := hB
    rw [ht] at hP1
    obtain ⟨hP, hD⟩ := fr_wld (W2 := (([(ho, .inl (cO, 1, .inr (.inl (fo))))] : va_W) ++ kW h0 cB cD cR x2 ds2)) (A := A) (fun q hq => hA q (Nat.le_trans hS0.1 hq)) hP hD List.perm_append_comm hk1 hP1 hD1 (kz List.perm_append_comm)
    clear hPc hDc hKc hFc hP1 hD1 hK1 hk1 hS0
    have hcd : (sFetch σ a1 a2).2.1 = 1 := cd_fetch.resolve_left hne
    have hE : E = "java/lang/IllegalStateException" := hE
    subst hE
    refine vx_catch (name := "java/lang/IllegalStateException") hown [] ⟨0, 10, 13, 13⟩ [] (htab.trans rfl) (fun z hz => by cases hz) (by decide) (by decide) (hw0 (.classLink "TextKeeperLaw" 13 "java/lang/IllegalStateException") (List.mem_of_getElem? (i := 431) rfl)) (va_Nw.use rfl (hN.1 (.castable "java/lang/IllegalStateException" "java/lang/IllegalStateException") (List.mem_of_getElem? (i := 11) rfl))) hce hcv hcl ?_
    refine W.eq (g2 := F0 m 13 ls [.ref q9]) rfl ?_
    generalize H1 = H at hP hS hce ⊢
    refine W.widen (k := 2) (n := 264) (by decide +kernel) (by decide +kernel) ?_
    refine lv_astore (lv' := [(4, .ref q9), (0, .ref h0), (1, .int a1), (2, .int a2), (3, .ref ho)]) hx hb d_L_fetch_13 hl (by decide) rfl (fun ls hl => ?_)
    refine lv_iconst (v := 1) hx hb d_L_fetch_15 (by decide) ?_
    exact W.iret (v := 1) hx hb hr (fun t ht hW => ⟨⟨1, (), rfl, hcd.symm, fo, x2, ds2, ⟨hk2, fun h => absurd h hne⟩, by rw [ht]; exact hP, va_K.moved hW.alike hK, hD⟩, hS.F ht⟩) hS.2.2 d_L_fetch_16
  · obtain ⟨hc0, hr0⟩ : (sFetch σ a1 a2).2.1 = 0 ∧ r = (sFetch σ a1 a2).2.2 := hw
    obtain ⟨x2, ds2, hk2, hP1, hK1, hD1⟩ := hB
    rw [ht] at hP1
    obtain ⟨hP, hD⟩ := fr_wld (W2 := (([(ho, .inl (cO, 1, .inr (.inl (fo))))] : va_W) ++ kW h0 cB cD cR x2 ds2)) (A := A) (fun q hq => hA q (Nat.le_trans hS0.1 hq)) hP hD List.perm_append_comm hk1 hP1 hD1 (kz List.perm_append_comm)
    clear hPc hDc hKc hFc hP1 hD1 hK1 hk1 hS0
    generalize H1 = H at hP hS ⊢
    refine W.widen (k := 2) (n := 264) (by decide +kernel) (by decide +kernel) ?_
    refine lv_i2l (v := r.toInt64) hx hb d_L_fetch_8 rfl ?_
    refine va_last hx hb hK hP hD hS 0 0 rfl rfl (by unfold vp_in; decide +kernel) d_L_fetch_9 (fun H locs hP hD hS => ?_)
    replace hP : va_P (dC, dI) vwCl (([(ho, .inl (cO, 1, .inr (.inl (vp_updL (fo) (Int32.toNatClampNeg 0) (r.toInt64)))))] : va_W) ++ kW h0 cB cD cR x2 ds2) H := hP
    replace hD : va_D A (([(ho, .inl (cO, 1, .inr (.inl (vp_updL (fo) (Int32.toNatClampNeg 0) (r.toInt64)))))] : va_W) ++ kW h0 cB cD cR x2 ds2) := hD
    refine lv_goto (tgt := 17) hx hb d_L_fetch_10 (by decide) ?_
    refine lv_iconst (v := 0) hx hb d_L_fetch_17 (by decide) ?_
    exact W.iret (v := 0) hx hb hr (fun t ht hW => ⟨⟨0, (), rfl, hc0.symm, (vp_updL (fo) (Int32.toNatClampNeg 0) (r.toInt64)), x2, ds2, ⟨hk2, fun _ => x_up0.trans (by rw [hr0])⟩, by rw [ht]; exact hP, va_K.moved hW.alike hK, hD⟩, hS.F ht⟩) hS.2.2 d_L_fetch_18
set_option maxHeartbeats 4000000 in
set_option maxRecDepth 100000 in
theorem w_out (l : Launch) (hl9 : l.stackTraces = false) (dC : Nat → ClassId) (dI : Nat → Nat → Nat) (sz : Nat) (h0 ho : Nat) (cB cD cR cO : ClassId) (fo : Nat → Int64) (x : KX) (ds : Nat → Option Dc) (σ : Sg) (a1 : Int32) (hs : sOk σ) (hk : kOk σ x ds) : Met l y_L_out k_L_out ({ frames := 9, cells := 2, slots := 264, locals := 179 } : Room) (va_Pc [.ref h0, .int a1, .ref ho] (fun U => pc_E (dC, dI) (([(ho, .inl (cO, 1, .inr (.inl (fo))))] : va_W) ++ kW h0 cB cD cR x ds) [(cO, .long), (cB, .byte), (cD, .object R_D), (cR, .object R_V)] sz U ∧ tw_ok U)) (va_Qi (fun (r : Int32) (_ : Unit) => r = (sOut σ a1).2.1) (fun (_ : Unit) t => ∃ (fo2 : Nat → Int64) (x2 : KX) (ds2 : Nat → Option Dc), (kOk (sOut σ a1).1 x2 ds2 ∧ ((sOut σ a1).2.1 = 0 → fo2 0 = (sOut σ a1).2.2.toInt64)) ∧ at_E (dC, dI) (va_A (([(ho, .inl (cO, 1, .inr (.inl (fo))))] : va_W) ++ kW h0 cB cD cR x ds) sz) (([(ho, .inl (cO, 1, .inr (.inl (fo2))))] : va_W) ++ kW h0 cB cD cR x2 ds2) [(cO, .long), (cB, .byte), (cD, .object R_D), (cR, .object R_V)] t) (va_A (([(ho, .inl (cO, 1, .inr (.inl (fo))))] : va_W) ++ kW h0 cB cD cR x ds) sz)) 2 264 (va_A (([(ho, .inl (cO, 1, .inr (.inl (fo))))] : va_W) ++ kW h0 cB cD cR x ds) sz) := by
  refine va_MetW (hh := [(0, 9, 12, 13)]) (cc := method_8_code) (maxL := 4) (ret := (some .int)) (by decide) rfl ?_
  intro p e s m args below meth c s₁ B hml hv
  obtain ⟨rfl, ⟨hsz, hP, hK, hD0, hN⟩, hTw⟩ := hv
  have hx := B.exec
  have hb := B.bytes
  have hr := B.returns
  have hts := atoms_spec (ws := k_L_out) B.pre
  have hw0 : ∀ w ∈ w0, w.before _ s = true := fun w h => hts w (List.mem_cons_of_mem _ h)
  have hown : s.vm.findClass R_L = some m.cls := findClass_of_methodNamed B.named
  have hlocks := B.notSynchronized
  have htab := vx_table (x := y_L_out) B (hts (.codeWith y_L_out method_8_code 4 (some .int) [(0, 9, 12, 13)]) List.mem_cons_self)
  subst hsz
  have hD := hD0.self (sz := s.heap.size)
  generalize hAe : va_A (([(ho, .inl (cO, 1, .inr (.inl (fo))))] : va_W) ++ kW h0 cB cD cR x ds) s.heap.size = A at hD ⊢
  have hA : ∀ q : Nat, s.heap.size ≤ q → A q := fun q h => by rw [← hAe]; exact Or.inr h
  clear hAe hD0
  have hS : va_S A s.heap s.heap [] := va_S.rf
  have hl := lv_entry ([.ref h0, .int a1, .ref ho]) (n := 4) (Nat.le_of_ble_eq_true rfl)
  rw [lg_entry_eq]
  generalize (lg_sl ([.ref h0, .int a1, .ref ho]) ++ List.replicate (4 - (lg_sl ([.ref h0, .int a1, .ref ho])).length) Slot.unset).toArray = ls at hl ⊢
  have hl : lv_has ls 4 [(0, .ref h0), (1, .int a1), (2, .ref ho)] := hl
  refine lv_aload_n hx hb d_L_out_0 rfl (lv_at hl 2 rfl) ?_
  refine lv_iconst (v := 0) hx hb d_L_out_1 (by decide) ?_
  refine lv_aload_n hx hb d_L_out_2 rfl (lv_at hl 0 rfl) ?_
  refine lv_iload_n hx hb d_L_out_3 rfl (lv_at hl 1 rfl) ?_
  have hPc : va_P (dC, dI) vwCl (kW h0 cB cD cR x ds) s.heap := (hP.perm List.perm_append_comm).left
  have hDc : va_D A (kW h0 cB cD cR x ds) := (hD.perm List.perm_append_comm).left
  have hKc : va_K (dC, dI) vwCl (kT cB cD cR) s := hK.sub [1, 2, 3] rfl
  have hFc : ∀ q : Nat, va_A (kW h0 cB cD cR x ds) s.heap.size q → A q := fr_free hD hS hA List.perm_append_comm
  have hS0 := hS
  refine vx_calli (vx_runV (As := [.int a1]) (rest := [.int 0, .ref ho]) ⟨hx, hb, hml, hown, hw0⟩ (kMet.out (k_out l hl9 dC dI s.heap.size h0 cB cD cR x ds σ a1 hs hk)) (cwV 1 hw0 (gd_V 549 550 551 226 689 rfl rfl rfl rfl rfl) rfl rfl rfl (by decide +kernel) ⟨by decide +kernel, by decide +kernel⟩) (prV_T hPc hKc hDc hN hTw (fun _ _ => rfl) (va_recv hKc hPc (ci := 0) (q0 := 0) rfl rfl)) rfl rfl hl.1 rfl (lv_room (Nat.le_of_ble_eq_true rfl)) d_L_out_4 ⟨by decide +kernel, by decide +kernel⟩) hS (fun q _ h => hFc q h) hFc (fun q _ h => hFc q h) (fun E ce q9 u t H1 locs ht hvm hw hB hz1 hk1 hS hce hcv hcl => ?_) (fun r u t H1 locs ht hvm hw hB hz1 hk1 hS => ?_)
  · obtain ⟨⟨hne, hE⟩, x2, ds2, hk2, hP1, hK1, hD1⟩ := hB
    rw [ht] at hP1
    obtain ⟨hP, hD⟩ := fr_wld (W2 := (([(ho, .inl (cO, 1, .inr (.inl (fo))))] : va_W) ++ kW h0 cB cD cR x2 ds2)) (A := A) (fun q hq => hA q (Nat.le_trans hS0.1 hq)) hP hD List.perm_append_comm hk1 hP1 hD1 (kz List.perm_append_comm)
    clear hPc hDc hKc hFc hP1 hD1 hK1 hk1 hS0
    have hcd : (sOut σ a1).2.1 = 1 := cd_out.resolve_left hne
    have hE : E = "java/lang/IllegalStateException" := hE
    subst hE
    refine vx_catch (name := "java/lang/IllegalStateException") hown [] ⟨0, 9, 12, 13⟩ [] (htab.trans rfl) (fun z hz => by cases hz) (by decide) (by decide) (hw0 (.classLink "TextKeeperLaw" 13 "java/lang/IllegalStateException") (List.mem_of_getElem? (i := 431) rfl)) (va_Nw.use rfl (hN.1 (.castable "java/lang/IllegalStateException" "java/lang/IllegalStateException") (List.mem_of_getElem? (i := 11) rfl))) hce hcv hcl ?_
    refine W.eq (g2 := F0 m 12 ls [.ref q9]) rfl ?_
    generalize H1 = H at hP hS hce ⊢
    refine W.widen (k := 2) (n := 264) (by decide +kernel) (by decide +kernel) ?_
    refine lv_astore_n (lv' := [(3, .ref q9), (0, .ref h0), (1, .int a1), (2, .ref ho)]) hx hb d_L_out_12 rfl hl (by decide) rfl (fun ls hl => ?_)
    refine lv_iconst (v := 1) hx hb d_L_out_13 (by decide) ?_
    exact W.iret (v := 1) hx hb hr (fun t ht hW => ⟨⟨1, (), rfl, hcd.symm, fo, x2, ds2, ⟨hk2, fun h => absurd h hne⟩, by rw [ht]; exact hP, va_K.moved hW.alike hK, hD⟩, hS.F ht⟩) hS.2.2 d_L_out_14
  · obtain ⟨hc0, hr0⟩ : (sOut σ a1).2.1 = 0 ∧ r = (sOut σ a1).2.2 := hw
    obtain ⟨x2, ds2, hk2, hP1, hK1, hD1⟩ := hB
    rw [ht] at hP1
    obtain ⟨hP, hD⟩ := fr_wld (W2 := (([(ho, .inl (cO, 1, .inr (.inl (fo))))] : va_W) ++ kW h0 cB cD cR x2 ds2)) (A := A) (fun q hq => hA q (Nat.le_trans hS0.1 hq)) hP hD List.perm_append_comm hk1 hP1 hD1 (kz List.perm_append_comm)
    clear hPc hDc hKc hFc hP1 hD1 hK1 hk1 hS0
    generalize H1 = H at hP hS ⊢
    refine W.widen (k := 2) (n := 264) (by decide +kernel) (by decide +kernel) ?_
    refine lv_i2l (v := r.toInt64) hx hb d_L_out_7 rfl ?_
    refine va_last hx hb hK hP hD hS 0 0 rfl rfl (by unfold vp_in; decide +kernel) d_L_out_8 (fun H locs hP hD hS => ?_)
    replace hP : va_P (dC, dI) vwCl (([(ho, .inl (cO, 1, .inr (.inl (vp_updL (fo) (Int32.toNatClampNeg 0) (r.toInt64)))))] : va_W) ++ kW h0 cB cD cR x2 ds2) H := hP
    replace hD : va_D A (([(ho, .inl (cO, 1, .inr (.inl (vp_updL (fo) (Int32.toNatClampNeg 0) (r.toInt64)))))] : va_W) ++ kW h0 cB cD cR x2 ds2) := hD
    refine lv_goto (tgt := 15) hx hb d_L_out_9 (by decide) ?_
    refine lv_iconst (v := 0) hx hb d_L_out_15 (by decide) ?_
    exact W.iret (v := 0) hx hb hr (fun t ht hW => ⟨⟨0, (), rfl, hc0.symm, (vp_updL (fo) (Int32.toNatClampNeg 0) (r.toInt64)), x2, ds2, ⟨hk2, fun _ => x_up0.trans (by rw [hr0])⟩, by rw [ht]; exact hP, va_K.moved hW.alike hK, hD⟩, hS.F ht⟩) hS.2.2 d_L_out_16
set_option maxHeartbeats 4000000 in
set_option maxRecDepth 100000 in
theorem w_steps (l : Launch) (hl9 : l.stackTraces = false) (dC : Nat → ClassId) (dI : Nat → Nat → Nat) (sz : Nat) (h0 ho : Nat) (cB cD cR cO : ClassId) (fo : Nat → Int64) (x : KX) (ds : Nat → Option Dc) (σ : Sg) (hs : sOk σ) (hk : kOk σ x ds) : Met l y_L_steps k_L_steps ({ frames := 9, cells := 2, slots := 264, locals := 179 } : Room) (va_Pc [.ref h0, .ref ho] (fun U => pc_E (dC, dI) (([(ho, .inl (cO, 1, .inr (.inl (fo))))] : va_W) ++ kW h0 cB cD cR x ds) [(cO, .long), (cB, .byte), (cD, .object R_D), (cR, .object R_V)] sz U ∧ tw_ok U)) (va_Qi (fun (r : Int32) (_ : Unit) => r = (sSteps σ).2.1) (fun (_ : Unit) t => ∃ (fo2 : Nat → Int64) (x2 : KX) (ds2 : Nat → Option Dc), (kOk (sSteps σ).1 x2 ds2 ∧ ((sSteps σ).2.1 = 0 → fo2 0 = (sSteps σ).2.2.toInt64)) ∧ at_E (dC, dI) (va_A (([(ho, .inl (cO, 1, .inr (.inl (fo))))] : va_W) ++ kW h0 cB cD cR x ds) sz) (([(ho, .inl (cO, 1, .inr (.inl (fo2))))] : va_W) ++ kW h0 cB cD cR x2 ds2) [(cO, .long), (cB, .byte), (cD, .object R_D), (cR, .object R_V)] t) (va_A (([(ho, .inl (cO, 1, .inr (.inl (fo))))] : va_W) ++ kW h0 cB cD cR x ds) sz)) 2 264 (va_A (([(ho, .inl (cO, 1, .inr (.inl (fo))))] : va_W) ++ kW h0 cB cD cR x ds) sz) := by
  refine va_MetW (hh := [(0, 8, 11, 13)]) (cc := method_9_code) (maxL := 3) (ret := (some .int)) (by decide) rfl ?_
  intro p e s m args below meth c s₁ B hml hv
  obtain ⟨rfl, ⟨hsz, hP, hK, hD0, hN⟩, hTw⟩ := hv
  have hx := B.exec
  have hb := B.bytes
  have hr := B.returns
  have hts := atoms_spec (ws := k_L_steps) B.pre
  have hw0 : ∀ w ∈ w0, w.before _ s = true := fun w h => hts w (List.mem_cons_of_mem _ h)
  have hown : s.vm.findClass R_L = some m.cls := findClass_of_methodNamed B.named
  have hlocks := B.notSynchronized
  have htab := vx_table (x := y_L_steps) B (hts (.codeWith y_L_steps method_9_code 3 (some .int) [(0, 8, 11, 13)]) List.mem_cons_self)
  subst hsz
  have hD := hD0.self (sz := s.heap.size)
  generalize hAe : va_A (([(ho, .inl (cO, 1, .inr (.inl (fo))))] : va_W) ++ kW h0 cB cD cR x ds) s.heap.size = A at hD ⊢
  have hA : ∀ q : Nat, s.heap.size ≤ q → A q := fun q h => by rw [← hAe]; exact Or.inr h
  clear hAe hD0
  have hS : va_S A s.heap s.heap [] := va_S.rf
  have hl := lv_entry ([.ref h0, .ref ho]) (n := 3) (Nat.le_of_ble_eq_true rfl)
  rw [lg_entry_eq]
  generalize (lg_sl ([.ref h0, .ref ho]) ++ List.replicate (3 - (lg_sl ([.ref h0, .ref ho])).length) Slot.unset).toArray = ls at hl ⊢
  have hl : lv_has ls 3 [(0, .ref h0), (1, .ref ho)] := hl
  refine lv_aload_n hx hb d_L_steps_0 rfl (lv_at hl 1 rfl) ?_
  refine lv_iconst (v := 0) hx hb d_L_steps_1 (by decide) ?_
  refine lv_aload_n hx hb d_L_steps_2 rfl (lv_at hl 0 rfl) ?_
  have hPc : va_P (dC, dI) vwCl (kW h0 cB cD cR x ds) s.heap := (hP.perm List.perm_append_comm).left
  have hDc : va_D A (kW h0 cB cD cR x ds) := (hD.perm List.perm_append_comm).left
  have hKc : va_K (dC, dI) vwCl (kT cB cD cR) s := hK.sub [1, 2, 3] rfl
  have hFc : ∀ q : Nat, va_A (kW h0 cB cD cR x ds) s.heap.size q → A q := fr_free hD hS hA List.perm_append_comm
  have hS0 := hS
  refine vx_calli (vx_runV (As := []) (rest := [.int 0, .ref ho]) ⟨hx, hb, hml, hown, hw0⟩ (kMet.out (k_steps l hl9 dC dI s.heap.size h0 cB cD cR x ds σ hs hk)) (cwV 0 hw0 (gd_V 554 555 556 226 691 rfl rfl rfl rfl rfl) rfl rfl rfl (by decide +kernel) ⟨by decide +kernel, by decide +kernel⟩) (prV_T hPc hKc hDc hN hTw (fun _ _ => rfl) (va_recv hKc hPc (ci := 0) (q0 := 0) rfl rfl)) rfl rfl hl.1 rfl (lv_room (Nat.le_of_ble_eq_true rfl)) d_L_steps_3 ⟨by decide +kernel, by decide +kernel⟩) hS (fun q _ h => hFc q h) hFc (fun q _ h => hFc q h) (fun E ce q9 u t H1 locs ht hvm hw hB hz1 hk1 hS hce hcv hcl => ?_) (fun r u t H1 locs ht hvm hw hB hz1 hk1 hS => ?_)
  · obtain ⟨⟨hne, hE⟩, x2, ds2, hk2, hP1, hK1, hD1⟩ := hB
    rw [ht] at hP1
    obtain ⟨hP, hD⟩ := fr_wld (W2 := (([(ho, .inl (cO, 1, .inr (.inl (fo))))] : va_W) ++ kW h0 cB cD cR x2 ds2)) (A := A) (fun q hq => hA q (Nat.le_trans hS0.1 hq)) hP hD List.perm_append_comm hk1 hP1 hD1 (kz List.perm_append_comm)
    clear hPc hDc hKc hFc hP1 hD1 hK1 hk1 hS0
    have hcd : (sSteps σ).2.1 = 1 := cd_steps.resolve_left hne
    have hE : E = "java/lang/IllegalStateException" := hE
    subst hE
    refine vx_catch (name := "java/lang/IllegalStateException") hown [] ⟨0, 8, 11, 13⟩ [] (htab.trans rfl) (fun z hz => by cases hz) (by decide) (by decide) (hw0 (.classLink "TextKeeperLaw" 13 "java/lang/IllegalStateException") (List.mem_of_getElem? (i := 431) rfl)) (va_Nw.use rfl (hN.1 (.castable "java/lang/IllegalStateException" "java/lang/IllegalStateException") (List.mem_of_getElem? (i := 11) rfl))) hce hcv hcl ?_
    refine W.eq (g2 := F0 m 11 ls [.ref q9]) rfl ?_
    generalize H1 = H at hP hS hce ⊢
    refine W.widen (k := 2) (n := 264) (by decide +kernel) (by decide +kernel) ?_
    refine lv_astore_n (lv' := [(2, .ref q9), (0, .ref h0), (1, .ref ho)]) hx hb d_L_steps_11 rfl hl (by decide) rfl (fun ls hl => ?_)
    refine lv_iconst (v := 1) hx hb d_L_steps_12 (by decide) ?_
    exact W.iret (v := 1) hx hb hr (fun t ht hW => ⟨⟨1, (), rfl, hcd.symm, fo, x2, ds2, ⟨hk2, fun h => absurd h hne⟩, by rw [ht]; exact hP, va_K.moved hW.alike hK, hD⟩, hS.F ht⟩) hS.2.2 d_L_steps_13
  · obtain ⟨hc0, hr0⟩ : (sSteps σ).2.1 = 0 ∧ r = (sSteps σ).2.2 := hw
    obtain ⟨x2, ds2, hk2, hP1, hK1, hD1⟩ := hB
    rw [ht] at hP1
    obtain ⟨hP, hD⟩ := fr_wld (W2 := (([(ho, .inl (cO, 1, .inr (.inl (fo))))] : va_W) ++ kW h0 cB cD cR x2 ds2)) (A := A) (fun q hq => hA q (Nat.le_trans hS0.1 hq)) hP hD List.perm_append_comm hk1 hP1 hD1 (kz List.perm_append_comm)
    clear hPc hDc hKc hFc hP1 hD1 hK1 hk1 hS0
    generalize H1 = H at hP hS ⊢
    refine W.widen (k := 2) (n := 264) (by decide +kernel) (by decide +kernel) ?_
    refine lv_i2l (v := r.toInt64) hx hb d_L_steps_6 rfl ?_
    refine va_last hx hb hK hP hD hS 0 0 rfl rfl (by unfold vp_in; decide +kernel) d_L_steps_7 (fun H locs hP hD hS => ?_)
    replace hP : va_P (dC, dI) vwCl (([(ho, .inl (cO, 1, .inr (.inl (vp_updL (fo) (Int32.toNatClampNeg 0) (r.toInt64)))))] : va_W) ++ kW h0 cB cD cR x2 ds2) H := hP
    replace hD : va_D A (([(ho, .inl (cO, 1, .inr (.inl (vp_updL (fo) (Int32.toNatClampNeg 0) (r.toInt64)))))] : va_W) ++ kW h0 cB cD cR x2 ds2) := hD
    refine lv_goto (tgt := 14) hx hb d_L_steps_8 (by decide) ?_
    refine lv_iconst (v := 0) hx hb d_L_steps_14 (by decide) ?_
    exact W.iret (v := 0) hx hb hr (fun t ht hW => ⟨⟨0, (), rfl, hc0.symm, (vp_updL (fo) (Int32.toNatClampNeg 0) (r.toInt64)), x2, ds2, ⟨hk2, fun _ => x_up0.trans (by rw [hr0])⟩, by rw [ht]; exact hP, va_K.moved hW.alike hK, hD⟩, hS.F ht⟩) hS.2.2 d_L_steps_15
set_option maxHeartbeats 4000000 in
set_option maxRecDepth 100000 in
theorem w_trim (l : Launch) (hl9 : l.stackTraces = false) (dC : Nat → ClassId) (dI : Nat → Nat → Nat) (sz : Nat) (h0 ho : Nat) (cB cD cR cO : ClassId) (fo : Nat → Int64) (x : KX) (ds : Nat → Option Dc) (σ : Sg) (a1 : Int32) (a2 : Int32) (hs : sOk σ) (hk : kOk σ x ds) : Met l y_L_trim k_L_trim ({ frames := 9, cells := 2, slots := 264, locals := 179 } : Room) (va_Pc [.ref h0, .int a1, .int a2, .ref ho] (fun U => pc_E (dC, dI) (([(ho, .inl (cO, 1, .inr (.inl (fo))))] : va_W) ++ kW h0 cB cD cR x ds) [(cO, .long), (cB, .byte), (cD, .object R_D), (cR, .object R_V)] sz U ∧ tw_ok U)) (va_Qi (fun (r : Int32) (_ : Unit) => r = (sTrim σ a1 a2).2.1) (fun (_ : Unit) t => ∃ (fo2 : Nat → Int64) (x2 : KX) (ds2 : Nat → Option Dc), (kOk (sTrim σ a1 a2).1 x2 ds2 ∧ ((sTrim σ a1 a2).2.1 = 0 → fo2 0 = (if (sTrim σ a1 a2).2.2 = 0 then 0 else 1))) ∧ at_E (dC, dI) (va_A (([(ho, .inl (cO, 1, .inr (.inl (fo))))] : va_W) ++ kW h0 cB cD cR x ds) sz) (([(ho, .inl (cO, 1, .inr (.inl (fo2))))] : va_W) ++ kW h0 cB cD cR x2 ds2) [(cO, .long), (cB, .byte), (cD, .object R_D), (cR, .object R_V)] t) (va_A (([(ho, .inl (cO, 1, .inr (.inl (fo))))] : va_W) ++ kW h0 cB cD cR x ds) sz)) 2 264 (va_A (([(ho, .inl (cO, 1, .inr (.inl (fo))))] : va_W) ++ kW h0 cB cD cR x ds) sz) := by
  refine va_MetW (hh := [(0, 17, 20, 13)]) (cc := method_10_code) (maxL := 5) (ret := (some .int)) (by decide) rfl ?_
  intro p e s m args below meth c s₁ B hml hv
  obtain ⟨rfl, ⟨hsz, hP, hK, hD0, hN⟩, hTw⟩ := hv
  have hx := B.exec
  have hb := B.bytes
  have hr := B.returns
  have hts := atoms_spec (ws := k_L_trim) B.pre
  have hw0 : ∀ w ∈ w0, w.before _ s = true := fun w h => hts w (List.mem_cons_of_mem _ h)
  have hown : s.vm.findClass R_L = some m.cls := findClass_of_methodNamed B.named
  have hlocks := B.notSynchronized
  have htab := vx_table (x := y_L_trim) B (hts (.codeWith y_L_trim method_10_code 5 (some .int) [(0, 17, 20, 13)]) List.mem_cons_self)
  subst hsz
  have hD := hD0.self (sz := s.heap.size)
  generalize hAe : va_A (([(ho, .inl (cO, 1, .inr (.inl (fo))))] : va_W) ++ kW h0 cB cD cR x ds) s.heap.size = A at hD ⊢
  have hA : ∀ q : Nat, s.heap.size ≤ q → A q := fun q h => by rw [← hAe]; exact Or.inr h
  clear hAe hD0
  have hS : va_S A s.heap s.heap [] := va_S.rf
  have hl := lv_entry ([.ref h0, .int a1, .int a2, .ref ho]) (n := 5) (Nat.le_of_ble_eq_true rfl)
  rw [lg_entry_eq]
  generalize (lg_sl ([.ref h0, .int a1, .int a2, .ref ho]) ++ List.replicate (5 - (lg_sl ([.ref h0, .int a1, .int a2, .ref ho])).length) Slot.unset).toArray = ls at hl ⊢
  have hl : lv_has ls 5 [(0, .ref h0), (1, .int a1), (2, .int a2), (3, .ref ho)] := hl
  refine lv_aload_n hx hb d_L_trim_0 rfl (lv_at hl 3 rfl) ?_
  refine lv_iconst (v := 0) hx hb d_L_trim_1 (by decide) ?_
  refine lv_aload_n hx hb d_L_trim_2 rfl (lv_at hl 0 rfl) ?_
  refine lv_iload_n hx hb d_L_trim_3 rfl (lv_at hl 1 rfl) ?_
  refine lv_iload_n hx hb d_L_trim_4 rfl (lv_at hl 2 rfl) ?_
  have hPc : va_P (dC, dI) vwCl (kW h0 cB cD cR x ds) s.heap := (hP.perm List.perm_append_comm).left
  have hDc : va_D A (kW h0 cB cD cR x ds) := (hD.perm List.perm_append_comm).left
  have hKc : va_K (dC, dI) vwCl (kT cB cD cR) s := hK.sub [1, 2, 3] rfl
  have hFc : ∀ q : Nat, va_A (kW h0 cB cD cR x ds) s.heap.size q → A q := fr_free hD hS hA List.perm_append_comm
  have hS0 := hS
  refine vx_calli (vx_runV (As := [.int a1, .int a2]) (rest := [.int 0, .ref ho]) ⟨hx, hb, hml, hown, hw0⟩ (kMet.out (k_trim l hl9 dC dI s.heap.size h0 cB cD cR x ds σ a1 a2 hs hk)) (cwV 2 hw0 (gd_V 559 560 561 226 693 rfl rfl rfl rfl rfl) rfl rfl rfl (by decide +kernel) ⟨by decide +kernel, by decide +kernel⟩) (prV_T hPc hKc hDc hN hTw (fun _ _ => rfl) (va_recv hKc hPc (ci := 0) (q0 := 0) rfl rfl)) rfl rfl hl.1 rfl (lv_room (Nat.le_of_ble_eq_true rfl)) d_L_trim_5 ⟨by decide +kernel, by decide +kernel⟩) hS (fun q _ h => hFc q h) hFc (fun q _ h => hFc q h) (fun E ce q9 u t H1 locs ht hvm hw hB hz1 hk1 hS hce hcv hcl => ?_) (fun r u t H1 locs ht hvm hw hB hz1 hk1 hS => ?_)
  · obtain ⟨⟨hne, hE⟩, x2, ds2, hk2, hP1, hK1, hD1⟩ := hB
    rw [ht] at hP1
    obtain ⟨hP, hD⟩ := fr_wld (W2 := (([(ho, .inl (cO, 1, .inr (.inl (fo))))] : va_W) ++ kW h0 cB cD cR x2 ds2)) (A := A) (fun q hq => hA q (Nat.le_trans hS0.1 hq)) hP hD List.perm_append_comm hk1 hP1 hD1 (kz List.perm_append_comm)
    clear hPc hDc hKc hFc hP1 hD1 hK1 hk1 hS0
    have hcd : (sTrim σ a1 a2).2.1 = 1 := cd_trim.resolve_left hne
    have hE : E = "java/lang/IllegalStateException" := hE
    subst hE
    refine vx_catch (name := "java/lang/IllegalStateException") hown [] ⟨0, 17, 20, 13⟩ [] (htab.trans rfl) (fun z hz => by cases hz) (by decide) (by decide) (hw0 (.classLink "TextKeeperLaw" 13 "java/lang/IllegalStateException") (List.mem_of_getElem? (i := 431) rfl)) (va_Nw.use rfl (hN.1 (.castable "java/lang/IllegalStateException" "java/lang/IllegalStateException") (List.mem_of_getElem? (i := 11) rfl))) hce hcv hcl ?_
    refine W.eq (g2 := F0 m 20 ls [.ref q9]) rfl ?_
    generalize H1 = H at hP hS hce ⊢
    refine W.widen (k := 2) (n := 264) (by decide +kernel) (by decide +kernel) ?_
    refine lv_astore (lv' := [(4, .ref q9), (0, .ref h0), (1, .int a1), (2, .int a2), (3, .ref ho)]) hx hb d_L_trim_20 hl (by decide) rfl (fun ls hl => ?_)
    refine lv_iconst (v := 1) hx hb d_L_trim_22 (by decide) ?_
    exact W.iret (v := 1) hx hb hr (fun t ht hW => ⟨⟨1, (), rfl, hcd.symm, fo, x2, ds2, ⟨hk2, fun h => absurd h hne⟩, by rw [ht]; exact hP, va_K.moved hW.alike hK, hD⟩, hS.F ht⟩) hS.2.2 d_L_trim_23
  · obtain ⟨hc0, hr0⟩ : (sTrim σ a1 a2).2.1 = 0 ∧ r = (sTrim σ a1 a2).2.2 := hw
    obtain ⟨x2, ds2, hk2, hP1, hK1, hD1⟩ := hB
    rw [ht] at hP1
    obtain ⟨hP, hD⟩ := fr_wld (W2 := (([(ho, .inl (cO, 1, .inr (.inl (fo))))] : va_W) ++ kW h0 cB cD cR x2 ds2)) (A := A) (fun q hq => hA q (Nat.le_trans hS0.1 hq)) hP hD List.perm_append_comm hk1 hP1 hD1 (kz List.perm_append_comm)
    clear hPc hDc hKc hFc hP1 hD1 hK1 hk1 hS0
    generalize H1 = H at hP hS ⊢
    refine W.widen (k := 2) (n := 264) (by decide +kernel) (by decide +kernel) ?_
    refine lv_if_eq (tgt := 15) hx hb d_L_trim_8 (by decide) (fun c_1 => ?_) (fun c_1 => ?_)
    · refine lv_lconst (v := 0) hx hb d_L_trim_15 (by decide) ?_
      refine va_last hx hb hK hP hD hS 0 0 rfl rfl (by unfold vp_in; decide +kernel) d_L_trim_16 (fun H locs hP hD hS => ?_)
      replace hP : va_P (dC, dI) vwCl (([(ho, .inl (cO, 1, .inr (.inl (vp_updL (fo) (Int32.toNatClampNeg 0) (0)))))] : va_W) ++ kW h0 cB cD cR x2 ds2) H := hP
      replace hD : va_D A (([(ho, .inl (cO, 1, .inr (.inl (vp_updL (fo) (Int32.toNatClampNeg 0) (0)))))] : va_W) ++ kW h0 cB cD cR x2 ds2) := hD
      refine lv_goto (tgt := 24) hx hb d_L_trim_17 (by decide) ?_
      refine lv_iconst (v := 0) hx hb d_L_trim_24 (by decide) ?_
      exact W.iret (v := 0) hx hb hr (fun t ht hW => ⟨⟨0, (), rfl, hc0.symm, (vp_updL (fo) (Int32.toNatClampNeg 0) (0)), x2, ds2, ⟨hk2, fun _ => x_up0.trans (by rw [← hr0]; exact (if_pos c_1).symm)⟩, by rw [ht]; exact hP, va_K.moved hW.alike hK, hD⟩, hS.F ht⟩) hS.2.2 d_L_trim_25
    · refine lv_lconst (v := 1) hx hb d_L_trim_11 (by decide) ?_
      refine lv_goto (tgt := 16) hx hb d_L_trim_12 (by decide) ?_
      refine va_last hx hb hK hP hD hS 0 0 rfl rfl (by unfold vp_in; decide +kernel) d_L_trim_16 (fun H locs hP hD hS => ?_)
      replace hP : va_P (dC, dI) vwCl (([(ho, .inl (cO, 1, .inr (.inl (vp_updL (fo) (Int32.toNatClampNeg 0) (1)))))] : va_W) ++ kW h0 cB cD cR x2 ds2) H := hP
      replace hD : va_D A (([(ho, .inl (cO, 1, .inr (.inl (vp_updL (fo) (Int32.toNatClampNeg 0) (1)))))] : va_W) ++ kW h0 cB cD cR x2 ds2) := hD
      refine lv_goto (tgt := 24) hx hb d_L_trim_17 (by decide) ?_
      refine lv_iconst (v := 0) hx hb d_L_trim_24 (by decide) ?_
      exact W.iret (v := 0) hx hb hr (fun t ht hW => ⟨⟨0, (), rfl, hc0.symm, (vp_updL (fo) (Int32.toNatClampNeg 0) (1)), x2, ds2, ⟨hk2, fun _ => x_up0.trans (by rw [← hr0]; exact (if_neg c_1).symm)⟩, by rw [ht]; exact hP, va_K.moved hW.alike hK, hD⟩, hS.F ht⟩) hS.2.2 d_L_trim_25
set_option maxHeartbeats 4000000 in
set_option maxRecDepth 100000 in
theorem w_dropDocument (l : Launch) (hl9 : l.stackTraces = false) (dC : Nat → ClassId) (dI : Nat → Nat → Nat) (sz : Nat) (h0 ho : Nat) (cB cD cR cO : ClassId) (fo : Nat → Int64) (x : KX) (ds : Nat → Option Dc) (σ : Sg) (a1 : Int32) (hs : sOk σ) (hk : kOk σ x ds) : Met l y_L_dropDocument k_L_dropDocument ({ frames := 9, cells := 2, slots := 264, locals := 179 } : Room) (va_Pc [.ref h0, .int a1, .ref ho] (fun U => pc_E (dC, dI) (([(ho, .inl (cO, 1, .inr (.inl (fo))))] : va_W) ++ kW h0 cB cD cR x ds) [(cO, .long), (cB, .byte), (cD, .object R_D), (cR, .object R_V)] sz U ∧ tw_ok U)) (va_Qi (fun (r : Int32) (_ : Unit) => r = (sDrop σ a1).2.1) (fun (_ : Unit) t => ∃ (fo2 : Nat → Int64) (x2 : KX) (ds2 : Nat → Option Dc), (kOk (sDrop σ a1).1 x2 ds2 ∧ ((sDrop σ a1).2.1 = 0 → fo2 0 = (if (sDrop σ a1).2.2 = 0 then 0 else 1))) ∧ at_E (dC, dI) (va_A (([(ho, .inl (cO, 1, .inr (.inl (fo))))] : va_W) ++ kW h0 cB cD cR x ds) sz) (([(ho, .inl (cO, 1, .inr (.inl (fo2))))] : va_W) ++ kW h0 cB cD cR x2 ds2) [(cO, .long), (cB, .byte), (cD, .object R_D), (cR, .object R_V)] t) (va_A (([(ho, .inl (cO, 1, .inr (.inl (fo))))] : va_W) ++ kW h0 cB cD cR x ds) sz)) 2 264 (va_A (([(ho, .inl (cO, 1, .inr (.inl (fo))))] : va_W) ++ kW h0 cB cD cR x ds) sz) := by
  refine va_MetW (hh := [(0, 16, 19, 13)]) (cc := method_11_code) (maxL := 4) (ret := (some .int)) (by decide) rfl ?_
  intro p e s m args below meth c s₁ B hml hv
  obtain ⟨rfl, ⟨hsz, hP, hK, hD0, hN⟩, hTw⟩ := hv
  have hx := B.exec
  have hb := B.bytes
  have hr := B.returns
  have hts := atoms_spec (ws := k_L_dropDocument) B.pre
  have hw0 : ∀ w ∈ w0, w.before _ s = true := fun w h => hts w (List.mem_cons_of_mem _ h)
  have hown : s.vm.findClass R_L = some m.cls := findClass_of_methodNamed B.named
  have hlocks := B.notSynchronized
  have htab := vx_table (x := y_L_dropDocument) B (hts (.codeWith y_L_dropDocument method_11_code 4 (some .int) [(0, 16, 19, 13)]) List.mem_cons_self)
  subst hsz
  have hD := hD0.self (sz := s.heap.size)
  generalize hAe : va_A (([(ho, .inl (cO, 1, .inr (.inl (fo))))] : va_W) ++ kW h0 cB cD cR x ds) s.heap.size = A at hD ⊢
  have hA : ∀ q : Nat, s.heap.size ≤ q → A q := fun q h => by rw [← hAe]; exact Or.inr h
  clear hAe hD0
  have hS : va_S A s.heap s.heap [] := va_S.rf
  have hl := lv_entry ([.ref h0, .int a1, .ref ho]) (n := 4) (Nat.le_of_ble_eq_true rfl)
  rw [lg_entry_eq]
  generalize (lg_sl ([.ref h0, .int a1, .ref ho]) ++ List.replicate (4 - (lg_sl ([.ref h0, .int a1, .ref ho])).length) Slot.unset).toArray = ls at hl ⊢
  have hl : lv_has ls 4 [(0, .ref h0), (1, .int a1), (2, .ref ho)] := hl
  refine lv_aload_n hx hb d_L_dropDocument_0 rfl (lv_at hl 2 rfl) ?_
  refine lv_iconst (v := 0) hx hb d_L_dropDocument_1 (by decide) ?_
  refine lv_aload_n hx hb d_L_dropDocument_2 rfl (lv_at hl 0 rfl) ?_
  refine lv_iload_n hx hb d_L_dropDocument_3 rfl (lv_at hl 1 rfl) ?_
  have hPc : va_P (dC, dI) vwCl (kW h0 cB cD cR x ds) s.heap := (hP.perm List.perm_append_comm).left
  have hDc : va_D A (kW h0 cB cD cR x ds) := (hD.perm List.perm_append_comm).left
  have hKc : va_K (dC, dI) vwCl (kT cB cD cR) s := hK.sub [1, 2, 3] rfl
  have hFc : ∀ q : Nat, va_A (kW h0 cB cD cR x ds) s.heap.size q → A q := fr_free hD hS hA List.perm_append_comm
  have hS0 := hS
  refine vx_calli (vx_runV (As := [.int a1]) (rest := [.int 0, .ref ho]) ⟨hx, hb, hml, hown, hw0⟩ (kMet.out (k_dropDocument l hl9 dC dI s.heap.size h0 cB cD cR x ds σ a1 hs hk)) (cwV 1 hw0 (gd_V 564 565 566 226 695 rfl rfl rfl rfl rfl) rfl rfl rfl (by decide +kernel) ⟨by decide +kernel, by decide +kernel⟩) (prV_T hPc hKc hDc hN hTw (fun _ _ => rfl) (va_recv hKc hPc (ci := 0) (q0 := 0) rfl rfl)) rfl rfl hl.1 rfl (lv_room (Nat.le_of_ble_eq_true rfl)) d_L_dropDocument_4 ⟨by decide +kernel, by decide +kernel⟩) hS (fun q _ h => hFc q h) hFc (fun q _ h => hFc q h) (fun E ce q9 u t H1 locs ht hvm hw hB hz1 hk1 hS hce hcv hcl => ?_) (fun r u t H1 locs ht hvm hw hB hz1 hk1 hS => ?_)
  · obtain ⟨⟨hne, hE⟩, x2, ds2, hk2, hP1, hK1, hD1⟩ := hB
    rw [ht] at hP1
    obtain ⟨hP, hD⟩ := fr_wld (W2 := (([(ho, .inl (cO, 1, .inr (.inl (fo))))] : va_W) ++ kW h0 cB cD cR x2 ds2)) (A := A) (fun q hq => hA q (Nat.le_trans hS0.1 hq)) hP hD List.perm_append_comm hk1 hP1 hD1 (kz List.perm_append_comm)
    clear hPc hDc hKc hFc hP1 hD1 hK1 hk1 hS0
    have hcd : (sDrop σ a1).2.1 = 1 := cd_dropDocument.resolve_left hne
    have hE : E = "java/lang/IllegalStateException" := hE
    subst hE
    refine vx_catch (name := "java/lang/IllegalStateException") hown [] ⟨0, 16, 19, 13⟩ [] (htab.trans rfl) (fun z hz => by cases hz) (by decide) (by decide) (hw0 (.classLink "TextKeeperLaw" 13 "java/lang/IllegalStateException") (List.mem_of_getElem? (i := 431) rfl)) (va_Nw.use rfl (hN.1 (.castable "java/lang/IllegalStateException" "java/lang/IllegalStateException") (List.mem_of_getElem? (i := 11) rfl))) hce hcv hcl ?_
    refine W.eq (g2 := F0 m 19 ls [.ref q9]) rfl ?_
    generalize H1 = H at hP hS hce ⊢
    refine W.widen (k := 2) (n := 264) (by decide +kernel) (by decide +kernel) ?_
    refine lv_astore_n (lv' := [(3, .ref q9), (0, .ref h0), (1, .int a1), (2, .ref ho)]) hx hb d_L_dropDocument_19 rfl hl (by decide) rfl (fun ls hl => ?_)
    refine lv_iconst (v := 1) hx hb d_L_dropDocument_20 (by decide) ?_
    exact W.iret (v := 1) hx hb hr (fun t ht hW => ⟨⟨1, (), rfl, hcd.symm, fo, x2, ds2, ⟨hk2, fun h => absurd h hne⟩, by rw [ht]; exact hP, va_K.moved hW.alike hK, hD⟩, hS.F ht⟩) hS.2.2 d_L_dropDocument_21
  · obtain ⟨hc0, hr0⟩ : (sDrop σ a1).2.1 = 0 ∧ r = (sDrop σ a1).2.2 := hw
    obtain ⟨x2, ds2, hk2, hP1, hK1, hD1⟩ := hB
    rw [ht] at hP1
    obtain ⟨hP, hD⟩ := fr_wld (W2 := (([(ho, .inl (cO, 1, .inr (.inl (fo))))] : va_W) ++ kW h0 cB cD cR x2 ds2)) (A := A) (fun q hq => hA q (Nat.le_trans hS0.1 hq)) hP hD List.perm_append_comm hk1 hP1 hD1 (kz List.perm_append_comm)
    clear hPc hDc hKc hFc hP1 hD1 hK1 hk1 hS0
    generalize H1 = H at hP hS ⊢
    refine W.widen (k := 2) (n := 264) (by decide +kernel) (by decide +kernel) ?_
    refine lv_if_eq (tgt := 14) hx hb d_L_dropDocument_7 (by decide) (fun c_1 => ?_) (fun c_1 => ?_)
    · refine lv_lconst (v := 0) hx hb d_L_dropDocument_14 (by decide) ?_
      refine va_last hx hb hK hP hD hS 0 0 rfl rfl (by unfold vp_in; decide +kernel) d_L_dropDocument_15 (fun H locs hP hD hS => ?_)
      replace hP : va_P (dC, dI) vwCl (([(ho, .inl (cO, 1, .inr (.inl (vp_updL (fo) (Int32.toNatClampNeg 0) (0)))))] : va_W) ++ kW h0 cB cD cR x2 ds2) H := hP
      replace hD : va_D A (([(ho, .inl (cO, 1, .inr (.inl (vp_updL (fo) (Int32.toNatClampNeg 0) (0)))))] : va_W) ++ kW h0 cB cD cR x2 ds2) := hD
      refine lv_goto (tgt := 22) hx hb d_L_dropDocument_16 (by decide) ?_
      refine lv_iconst (v := 0) hx hb d_L_dropDocument_22 (by decide) ?_
      exact W.iret (v := 0) hx hb hr (fun t ht hW => ⟨⟨0, (), rfl, hc0.symm, (vp_updL (fo) (Int32.toNatClampNeg 0) (0)), x2, ds2, ⟨hk2, fun _ => x_up0.trans (by rw [← hr0]; exact (if_pos c_1).symm)⟩, by rw [ht]; exact hP, va_K.moved hW.alike hK, hD⟩, hS.F ht⟩) hS.2.2 d_L_dropDocument_23
    · refine lv_lconst (v := 1) hx hb d_L_dropDocument_10 (by decide) ?_
      refine lv_goto (tgt := 15) hx hb d_L_dropDocument_11 (by decide) ?_
      refine va_last hx hb hK hP hD hS 0 0 rfl rfl (by unfold vp_in; decide +kernel) d_L_dropDocument_15 (fun H locs hP hD hS => ?_)
      replace hP : va_P (dC, dI) vwCl (([(ho, .inl (cO, 1, .inr (.inl (vp_updL (fo) (Int32.toNatClampNeg 0) (1)))))] : va_W) ++ kW h0 cB cD cR x2 ds2) H := hP
      replace hD : va_D A (([(ho, .inl (cO, 1, .inr (.inl (vp_updL (fo) (Int32.toNatClampNeg 0) (1)))))] : va_W) ++ kW h0 cB cD cR x2 ds2) := hD
      refine lv_goto (tgt := 22) hx hb d_L_dropDocument_16 (by decide) ?_
      refine lv_iconst (v := 0) hx hb d_L_dropDocument_22 (by decide) ?_
      exact W.iret (v := 0) hx hb hr (fun t ht hW => ⟨⟨0, (), rfl, hc0.symm, (vp_updL (fo) (Int32.toNatClampNeg 0) (1)), x2, ds2, ⟨hk2, fun _ => x_up0.trans (by rw [← hr0]; exact (if_neg c_1).symm)⟩, by rw [ht]; exact hP, va_K.moved hW.alike hK, hD⟩, hS.F ht⟩) hS.2.2 d_L_dropDocument_23
set_option maxHeartbeats 4000000 in
set_option maxRecDepth 100000 in
theorem w_about (l : Launch) (hl9 : l.stackTraces = false) (dC : Nat → ClassId) (dI : Nat → Nat → Nat) (sz : Nat) (h0 ho : Nat) (cB cD cR cO : ClassId) (fo : Nat → Int64) (x : KX) (ds : Nat → Option Dc) (σ : Sg) (a1 : Int32) (a2 : Int32) (hs : sOk σ) (hk : kOk σ x ds) : Met l y_L_about k_L_about ({ frames := 9, cells := 2, slots := 264, locals := 179 } : Room) (va_Pc [.ref h0, .int a1, .int a2, .ref ho] (fun U => pc_E (dC, dI) (([(ho, .inl (cO, 1, .inr (.inl (fo))))] : va_W) ++ kW h0 cB cD cR x ds) [(cO, .long), (cB, .byte), (cD, .object R_D), (cR, .object R_V)] sz U ∧ tw_ok U ∧ nc_ok U)) (va_Qi (fun (r : Int32) (_ : Unit) => r = (sAbout σ a1 a2).2.1) (fun (_ : Unit) t => ∃ (fo2 : Nat → Int64) (x2 : KX) (ds2 : Nat → Option Dc), (kOk (sAbout σ a1 a2).1 x2 ds2 ∧ ((sAbout σ a1 a2).2.1 = 0 → fo2 0 = (sAbout σ a1 a2).2.2.toInt64)) ∧ at_E (dC, dI) (va_A (([(ho, .inl (cO, 1, .inr (.inl (fo))))] : va_W) ++ kW h0 cB cD cR x ds) sz) (([(ho, .inl (cO, 1, .inr (.inl (fo2))))] : va_W) ++ kW h0 cB cD cR x2 ds2) [(cO, .long), (cB, .byte), (cD, .object R_D), (cR, .object R_V)] t) (va_A (([(ho, .inl (cO, 1, .inr (.inl (fo))))] : va_W) ++ kW h0 cB cD cR x ds) sz)) 2 264 (va_A (([(ho, .inl (cO, 1, .inr (.inl (fo))))] : va_W) ++ kW h0 cB cD cR x ds) sz) := by
  refine va_MetW (hh := [(0, 10, 13, 47), (0, 10, 17, 49), (0, 10, 21, 13)]) (cc := method_12_code) (maxL := 5) (ret := (some .int)) (by decide) rfl ?_
  intro p e s m args below meth c s₁ B hml hv
  obtain ⟨rfl, ⟨hsz, hP, hK, hD0, hN⟩, hTw, hnc⟩ := hv
  have hx := B.exec
  have hb := B.bytes
  have hr := B.returns
  have hts := atoms_spec (ws := k_L_about) B.pre
  have hw0 : ∀ w ∈ w0, w.before _ s = true := fun w h => hts w (List.mem_cons_of_mem _ h)
  have hown : s.vm.findClass R_L = some m.cls := findClass_of_methodNamed B.named
  have hlocks := B.notSynchronized
  have htab := vx_table (x := y_L_about) B (hts (.codeWith y_L_about method_12_code 5 (some .int) [(0, 10, 13, 47), (0, 10, 17, 49), (0, 10, 21, 13)]) List.mem_cons_self)
  subst hsz
  have hD := hD0.self (sz := s.heap.size)
  generalize hAe : va_A (([(ho, .inl (cO, 1, .inr (.inl (fo))))] : va_W) ++ kW h0 cB cD cR x ds) s.heap.size = A at hD ⊢
  have hA : ∀ q : Nat, s.heap.size ≤ q → A q := fun q h => by rw [← hAe]; exact Or.inr h
  clear hAe hD0
  have hS : va_S A s.heap s.heap [] := va_S.rf
  have hl := lv_entry ([.ref h0, .int a1, .int a2, .ref ho]) (n := 5) (Nat.le_of_ble_eq_true rfl)
  rw [lg_entry_eq]
  generalize (lg_sl ([.ref h0, .int a1, .int a2, .ref ho]) ++ List.replicate (5 - (lg_sl ([.ref h0, .int a1, .int a2, .ref ho])).length) Slot.unset).toArray = ls at hl ⊢
  have hl : lv_has ls 5 [(0, .ref h0), (1, .int a1), (2, .int a2), (3, .ref ho)] := hl
  refine lv_aload_n hx hb d_L_about_0 rfl (lv_at hl 3 rfl) ?_
  refine lv_iconst (v := 0) hx hb d_L_about_1 (by decide) ?_
  refine lv_aload_n hx hb d_L_about_2 rfl (lv_at hl 0 rfl) ?_
  refine lv_iload_n hx hb d_L_about_3 rfl (lv_at hl 1 rfl) ?_
  refine lv_iload_n hx hb d_L_about_4 rfl (lv_at hl 2 rfl) ?_
  have hPc : va_P (dC, dI) vwCl (kW h0 cB cD cR x ds) s.heap := (hP.perm List.perm_append_comm).left
  have hDc : va_D A (kW h0 cB cD cR x ds) := (hD.perm List.perm_append_comm).left
  have hKc : va_K (dC, dI) vwCl (kT cB cD cR) s := hK.sub [1, 2, 3] rfl
  have hFc : ∀ q : Nat, va_A (kW h0 cB cD cR x ds) s.heap.size q → A q := fr_free hD hS hA List.perm_append_comm
  have hS0 := hS
  refine vx_calli (vx_runV (As := [.int a1, .int a2]) (rest := [.int 0, .ref ho]) ⟨hx, hb, hml, hown, hw0⟩ (kMet.out (k_about l hl9 dC dI s.heap.size h0 cB cD cR x ds σ a1 a2 hs hk)) (cwV 2 hw0 (gd_V 569 570 571 226 697 rfl rfl rfl rfl rfl) rfl rfl rfl (by decide +kernel) ⟨by decide +kernel, by decide +kernel⟩) (prV_T hPc hKc hDc hN hTw (fun _ _ => rfl) (va_recv hKc hPc (ci := 0) (q0 := 0) rfl rfl)) rfl rfl hl.1 rfl (lv_room (Nat.le_of_ble_eq_true rfl)) d_L_about_5 ⟨by decide +kernel, by decide +kernel⟩) hS (fun q _ h => hFc q h) hFc (fun q _ h => hFc q h) (fun E ce q9 u t H1 locs ht hvm hw hB hz1 hk1 hS hce hcv hcl => ?_) (fun r u t H1 locs ht hvm hw hB hz1 hk1 hS => ?_)
  · obtain ⟨⟨hne, hE⟩, x2, ds2, hk2, hP1, hK1, hD1⟩ := hB
    rw [ht] at hP1
    obtain ⟨hP, hD⟩ := fr_wld (W2 := (([(ho, .inl (cO, 1, .inr (.inl (fo))))] : va_W) ++ kW h0 cB cD cR x2 ds2)) (A := A) (fun q hq => hA q (Nat.le_trans hS0.1 hq)) hP hD List.perm_append_comm hk1 hP1 hD1 (kz List.perm_append_comm)
    clear hPc hDc hKc hFc hP1 hD1 hK1 hk1 hS0
    rcases cd_about.resolve_left hne with hcd | hcd | hcd
    · have hE : E = "java/util/NoSuchElementException" := by rw [hE, hcd]; rfl
      subst hE
      refine vx_catch (name := "java/util/NoSuchElementException") hown [] ⟨0, 10, 13, 47⟩ [⟨0, 10, 17, 49⟩, ⟨0, 10, 21, 13⟩] (htab.trans rfl) (fun z hz => by cases hz) (by decide) (by decide) (hw0 (.classLink "TextKeeperLaw" 47 "java/util/NoSuchElementException") (List.mem_of_getElem? (i := 477) rfl)) (va_Nw.use rfl (hN.1 (.castable "java/util/NoSuchElementException" "java/util/NoSuchElementException") (List.mem_of_getElem? (i := 15) rfl))) hce hcv hcl ?_
      refine W.eq (g2 := F0 m 13 ls [.ref q9]) rfl ?_
      generalize H1 = H at hP hS hce ⊢
      refine W.widen (k := 2) (n := 264) (by decide +kernel) (by decide +kernel) ?_
      refine lv_astore (lv' := [(4, .ref q9), (0, .ref h0), (1, .int a1), (2, .int a2), (3, .ref ho)]) hx hb d_L_about_13 hl (by decide) rfl (fun ls hl => ?_)
      refine lv_iconst (v := 1) hx hb d_L_about_15 (by decide) ?_
      exact W.iret (v := 1) hx hb hr (fun t ht hW => ⟨⟨1, (), rfl, hcd.symm, fo, x2, ds2, ⟨hk2, fun h => absurd h hne⟩, by rw [ht]; exact hP, va_K.moved hW.alike hK, hD⟩, hS.F ht⟩) hS.2.2 d_L_about_16
    · have hE : E = "java/lang/IllegalArgumentException" := by rw [hE, hcd]; rfl
      subst hE
      refine vx_catch (name := "java/lang/IllegalArgumentException") hown [⟨0, 10, 13, 47⟩] ⟨0, 10, 17, 49⟩ [⟨0, 10, 21, 13⟩] (htab.trans rfl) (fun z hz => Or.inr (by obtain rfl := List.mem_singleton.mp hz; exact ⟨by decide, "java/util/NoSuchElementException", (hw0 (.classLink "TextKeeperLaw" 47 "java/util/NoSuchElementException") (List.mem_of_getElem? (i := 477) rfl)), hnc.1⟩)) (by decide) (by decide) (hw0 (.classLink "TextKeeperLaw" 49 "java/lang/IllegalArgumentException") (List.mem_of_getElem? (i := 478) rfl)) (va_Nw.use rfl (hN.1 (.castable "java/lang/IllegalArgumentException" "java/lang/IllegalArgumentException") (List.mem_of_getElem? (i := 16) rfl))) hce hcv hcl ?_
      refine W.eq (g2 := F0 m 17 ls [.ref q9]) rfl ?_
      generalize H1 = H at hP hS hce ⊢
      refine W.widen (k := 2) (n := 264) (by decide +kernel) (by decide +kernel) ?_
      refine lv_astore (lv' := [(4, .ref q9), (0, .ref h0), (1, .int a1), (2, .int a2), (3, .ref ho)]) hx hb d_L_about_17 hl (by decide) rfl (fun ls hl => ?_)
      refine lv_iconst (v := 2) hx hb d_L_about_19 (by decide) ?_
      exact W.iret (v := 2) hx hb hr (fun t ht hW => ⟨⟨2, (), rfl, hcd.symm, fo, x2, ds2, ⟨hk2, fun h => absurd h hne⟩, by rw [ht]; exact hP, va_K.moved hW.alike hK, hD⟩, hS.F ht⟩) hS.2.2 d_L_about_20
    · have hE : E = "java/lang/IllegalStateException" := by rw [hE, hcd]; rfl
      subst hE
      refine vx_catch (name := "java/lang/IllegalStateException") hown [⟨0, 10, 13, 47⟩, ⟨0, 10, 17, 49⟩] ⟨0, 10, 21, 13⟩ [] (htab.trans rfl) (fun z hz => Or.inr (by rcases List.mem_cons.mp hz with rfl | hz; exact ⟨by decide, "java/util/NoSuchElementException", (hw0 (.classLink "TextKeeperLaw" 47 "java/util/NoSuchElementException") (List.mem_of_getElem? (i := 477) rfl)), hnc.2.1⟩; obtain rfl := List.mem_singleton.mp hz; exact ⟨by decide, "java/lang/IllegalArgumentException", (hw0 (.classLink "TextKeeperLaw" 49 "java/lang/IllegalArgumentException") (List.mem_of_getElem? (i := 478) rfl)), hnc.2.2⟩)) (by decide) (by decide) (hw0 (.classLink "TextKeeperLaw" 13 "java/lang/IllegalStateException") (List.mem_of_getElem? (i := 431) rfl)) (va_Nw.use rfl (hN.1 (.castable "java/lang/IllegalStateException" "java/lang/IllegalStateException") (List.mem_of_getElem? (i := 11) rfl))) hce hcv hcl ?_
      refine W.eq (g2 := F0 m 21 ls [.ref q9]) rfl ?_
      generalize H1 = H at hP hS hce ⊢
      refine W.widen (k := 2) (n := 264) (by decide +kernel) (by decide +kernel) ?_
      refine lv_astore (lv' := [(4, .ref q9), (0, .ref h0), (1, .int a1), (2, .int a2), (3, .ref ho)]) hx hb d_L_about_21 hl (by decide) rfl (fun ls hl => ?_)
      refine lv_iconst (v := 3) hx hb d_L_about_23 (by decide) ?_
      exact W.iret (v := 3) hx hb hr (fun t ht hW => ⟨⟨3, (), rfl, hcd.symm, fo, x2, ds2, ⟨hk2, fun h => absurd h hne⟩, by rw [ht]; exact hP, va_K.moved hW.alike hK, hD⟩, hS.F ht⟩) hS.2.2 d_L_about_24
  · obtain ⟨hc0, hr0⟩ : (sAbout σ a1 a2).2.1 = 0 ∧ r = (sAbout σ a1 a2).2.2 := hw
    obtain ⟨x2, ds2, hk2, hP1, hK1, hD1⟩ := hB
    rw [ht] at hP1
    obtain ⟨hP, hD⟩ := fr_wld (W2 := (([(ho, .inl (cO, 1, .inr (.inl (fo))))] : va_W) ++ kW h0 cB cD cR x2 ds2)) (A := A) (fun q hq => hA q (Nat.le_trans hS0.1 hq)) hP hD List.perm_append_comm hk1 hP1 hD1 (kz List.perm_append_comm)
    clear hPc hDc hKc hFc hP1 hD1 hK1 hk1 hS0
    generalize H1 = H at hP hS ⊢
    refine W.widen (k := 2) (n := 264) (by decide +kernel) (by decide +kernel) ?_
    refine lv_i2l (v := r.toInt64) hx hb d_L_about_8 rfl ?_
    refine va_last hx hb hK hP hD hS 0 0 rfl rfl (by unfold vp_in; decide +kernel) d_L_about_9 (fun H locs hP hD hS => ?_)
    replace hP : va_P (dC, dI) vwCl (([(ho, .inl (cO, 1, .inr (.inl (vp_updL (fo) (Int32.toNatClampNeg 0) (r.toInt64)))))] : va_W) ++ kW h0 cB cD cR x2 ds2) H := hP
    replace hD : va_D A (([(ho, .inl (cO, 1, .inr (.inl (vp_updL (fo) (Int32.toNatClampNeg 0) (r.toInt64)))))] : va_W) ++ kW h0 cB cD cR x2 ds2) := hD
    refine lv_goto (tgt := 25) hx hb d_L_about_10 (by decide) ?_
    refine lv_iconst (v := 0) hx hb d_L_about_25 (by decide) ?_
    exact W.iret (v := 0) hx hb hr (fun t ht hW => ⟨⟨0, (), rfl, hc0.symm, (vp_updL (fo) (Int32.toNatClampNeg 0) (r.toInt64)), x2, ds2, ⟨hk2, fun _ => x_up0.trans (by rw [hr0])⟩, by rw [ht]; exact hP, va_K.moved hW.alike hK, hD⟩, hS.F ht⟩) hS.2.2 d_L_about_26
set_option maxHeartbeats 4000000 in
set_option maxRecDepth 100000 in
theorem w_revision (l : Launch) (hl9 : l.stackTraces = false) (dC : Nat → ClassId) (dI : Nat → Nat → Nat) (sz : Nat) (h0 ho : Nat) (cB cD cR cO : ClassId) (fo : Nat → Int64) (x : KX) (ds : Nat → Option Dc) (σ : Sg) (a1 : Int32) (a2 : Int32) (a3 : Int32) (hs : sOk σ) (hk : kOk σ x ds) : Met l y_L_revision k_L_revision ({ frames := 9, cells := 2, slots := 264, locals := 179 } : Room) (va_Pc [.ref h0, .int a1, .int a2, .int a3, .ref ho] (fun U => pc_E (dC, dI) (([(ho, .inl (cO, 1, .inr (.inl (fo))))] : va_W) ++ kW h0 cB cD cR x ds) [(cO, .long), (cB, .byte), (cD, .object R_D), (cR, .object R_V)] sz U ∧ tw_ok U ∧ nc_ok U)) (va_Qi (fun (r : Int32) (_ : Unit) => r = (sRev σ a1 a2 a3).2.1) (fun (_ : Unit) t => ∃ (fo2 : Nat → Int64) (x2 : KX) (ds2 : Nat → Option Dc), (kOk (sRev σ a1 a2 a3).1 x2 ds2 ∧ ((sRev σ a1 a2 a3).2.1 = 0 → fo2 0 = (sRev σ a1 a2 a3).2.2.toInt64)) ∧ at_E (dC, dI) (va_A (([(ho, .inl (cO, 1, .inr (.inl (fo))))] : va_W) ++ kW h0 cB cD cR x ds) sz) (([(ho, .inl (cO, 1, .inr (.inl (fo2))))] : va_W) ++ kW h0 cB cD cR x2 ds2) [(cO, .long), (cB, .byte), (cD, .object R_D), (cR, .object R_V)] t) (va_A (([(ho, .inl (cO, 1, .inr (.inl (fo))))] : va_W) ++ kW h0 cB cD cR x ds) sz)) 2 264 (va_A (([(ho, .inl (cO, 1, .inr (.inl (fo))))] : va_W) ++ kW h0 cB cD cR x ds) sz) := by
  refine va_MetW (hh := [(0, 12, 15, 47), (0, 12, 19, 49), (0, 12, 23, 13)]) (cc := method_13_code) (maxL := 6) (ret := (some .int)) (by decide) rfl ?_
  intro p e s m args below meth c s₁ B hml hv
  obtain ⟨rfl, ⟨hsz, hP, hK, hD0, hN⟩, hTw, hnc⟩ := hv
  have hx := B.exec
  have hb := B.bytes
  have hr := B.returns
  have hts := atoms_spec (ws := k_L_revision) B.pre
  have hw0 : ∀ w ∈ w0, w.before _ s = true := fun w h => hts w (List.mem_cons_of_mem _ h)
  have hown : s.vm.findClass R_L = some m.cls := findClass_of_methodNamed B.named
  have hlocks := B.notSynchronized
  have htab := vx_table (x := y_L_revision) B (hts (.codeWith y_L_revision method_13_code 6 (some .int) [(0, 12, 15, 47), (0, 12, 19, 49), (0, 12, 23, 13)]) List.mem_cons_self)
  subst hsz
  have hD := hD0.self (sz := s.heap.size)
  generalize hAe : va_A (([(ho, .inl (cO, 1, .inr (.inl (fo))))] : va_W) ++ kW h0 cB cD cR x ds) s.heap.size = A at hD ⊢
  have hA : ∀ q : Nat, s.heap.size ≤ q → A q := fun q h => by rw [← hAe]; exact Or.inr h
  clear hAe hD0
  have hS : va_S A s.heap s.heap [] := va_S.rf
  have hl := lv_entry ([.ref h0, .int a1, .int a2, .int a3, .ref ho]) (n := 6) (Nat.le_of_ble_eq_true rfl)
  rw [lg_entry_eq]
  generalize (lg_sl ([.ref h0, .int a1, .int a2, .int a3, .ref ho]) ++ List.replicate (6 - (lg_sl ([.ref h0, .int a1, .int a2, .int a3, .ref ho])).length) Slot.unset).toArray = ls at hl ⊢
  have hl : lv_has ls 6 [(0, .ref h0), (1, .int a1), (2, .int a2), (3, .int a3), (4, .ref ho)] := hl
  refine lv_aload hx hb d_L_revision_0 (lv_at hl 4 rfl) ?_
  refine lv_iconst (v := 0) hx hb d_L_revision_2 (by decide) ?_
  refine lv_aload_n hx hb d_L_revision_3 rfl (lv_at hl 0 rfl) ?_
  refine lv_iload_n hx hb d_L_revision_4 rfl (lv_at hl 1 rfl) ?_
  refine lv_iload_n hx hb d_L_revision_5 rfl (lv_at hl 2 rfl) ?_
  refine lv_iload_n hx hb d_L_revision_6 rfl (lv_at hl 3 rfl) ?_
  have hPc : va_P (dC, dI) vwCl (kW h0 cB cD cR x ds) s.heap := (hP.perm List.perm_append_comm).left
  have hDc : va_D A (kW h0 cB cD cR x ds) := (hD.perm List.perm_append_comm).left
  have hKc : va_K (dC, dI) vwCl (kT cB cD cR) s := hK.sub [1, 2, 3] rfl
  have hFc : ∀ q : Nat, va_A (kW h0 cB cD cR x ds) s.heap.size q → A q := fr_free hD hS hA List.perm_append_comm
  have hS0 := hS
  refine vx_calli (vx_runV (As := [.int a1, .int a2, .int a3]) (rest := [.int 0, .ref ho]) ⟨hx, hb, hml, hown, hw0⟩ (kMet.out (k_revision l hl9 dC dI s.heap.size h0 cB cD cR x ds σ a1 a2 a3 hs hk)) (cwV 3 hw0 (gd_V 574 575 576 226 699 rfl rfl rfl rfl rfl) rfl rfl rfl (by decide +kernel) ⟨by decide +kernel, by decide +kernel⟩) (prV_T hPc hKc hDc hN hTw (fun _ _ => rfl) (va_recv hKc hPc (ci := 0) (q0 := 0) rfl rfl)) rfl rfl hl.1 rfl (lv_room (Nat.le_of_ble_eq_true rfl)) d_L_revision_7 ⟨by decide +kernel, by decide +kernel⟩) hS (fun q _ h => hFc q h) hFc (fun q _ h => hFc q h) (fun E ce q9 u t H1 locs ht hvm hw hB hz1 hk1 hS hce hcv hcl => ?_) (fun r u t H1 locs ht hvm hw hB hz1 hk1 hS => ?_)
  · obtain ⟨⟨hne, hE⟩, x2, ds2, hk2, hP1, hK1, hD1⟩ := hB
    rw [ht] at hP1
    obtain ⟨hP, hD⟩ := fr_wld (W2 := (([(ho, .inl (cO, 1, .inr (.inl (fo))))] : va_W) ++ kW h0 cB cD cR x2 ds2)) (A := A) (fun q hq => hA q (Nat.le_trans hS0.1 hq)) hP hD List.perm_append_comm hk1 hP1 hD1 (kz List.perm_append_comm)
    clear hPc hDc hKc hFc hP1 hD1 hK1 hk1 hS0
    rcases cd_revision.resolve_left hne with hcd | hcd | hcd
    · have hE : E = "java/util/NoSuchElementException" := by rw [hE, hcd]; rfl
      subst hE
      refine vx_catch (name := "java/util/NoSuchElementException") hown [] ⟨0, 12, 15, 47⟩ [⟨0, 12, 19, 49⟩, ⟨0, 12, 23, 13⟩] (htab.trans rfl) (fun z hz => by cases hz) (by decide) (by decide) (hw0 (.classLink "TextKeeperLaw" 47 "java/util/NoSuchElementException") (List.mem_of_getElem? (i := 477) rfl)) (va_Nw.use rfl (hN.1 (.castable "java/util/NoSuchElementException" "java/util/NoSuchElementException") (List.mem_of_getElem? (i := 15) rfl))) hce hcv hcl ?_
      refine W.eq (g2 := F0 m 15 ls [.ref q9]) rfl ?_
      generalize H1 = H at hP hS hce ⊢
      refine W.widen (k := 2) (n := 264) (by decide +kernel) (by decide +kernel) ?_
      refine lv_astore (lv' := [(5, .ref q9), (0, .ref h0), (1, .int a1), (2, .int a2), (3, .int a3), (4, .ref ho)]) hx hb d_L_revision_15 hl (by decide) rfl (fun ls hl => ?_)
      refine lv_iconst (v := 1) hx hb d_L_revision_17 (by decide) ?_
      exact W.iret (v := 1) hx hb hr (fun t ht hW => ⟨⟨1, (), rfl, hcd.symm, fo, x2, ds2, ⟨hk2, fun h => absurd h hne⟩, by rw [ht]; exact hP, va_K.moved hW.alike hK, hD⟩, hS.F ht⟩) hS.2.2 d_L_revision_18
    · have hE : E = "java/lang/IllegalArgumentException" := by rw [hE, hcd]; rfl
      subst hE
      refine vx_catch (name := "java/lang/IllegalArgumentException") hown [⟨0, 12, 15, 47⟩] ⟨0, 12, 19, 49⟩ [⟨0, 12, 23, 13⟩] (htab.trans rfl) (fun z hz => Or.inr (by obtain rfl := List.mem_singleton.mp hz; exact ⟨by decide, "java/util/NoSuchElementException", (hw0 (.classLink "TextKeeperLaw" 47 "java/util/NoSuchElementException") (List.mem_of_getElem? (i := 477) rfl)), hnc.1⟩)) (by decide) (by decide) (hw0 (.classLink "TextKeeperLaw" 49 "java/lang/IllegalArgumentException") (List.mem_of_getElem? (i := 478) rfl)) (va_Nw.use rfl (hN.1 (.castable "java/lang/IllegalArgumentException" "java/lang/IllegalArgumentException") (List.mem_of_getElem? (i := 16) rfl))) hce hcv hcl ?_
      refine W.eq (g2 := F0 m 19 ls [.ref q9]) rfl ?_
      generalize H1 = H at hP hS hce ⊢
      refine W.widen (k := 2) (n := 264) (by decide +kernel) (by decide +kernel) ?_
      refine lv_astore (lv' := [(5, .ref q9), (0, .ref h0), (1, .int a1), (2, .int a2), (3, .int a3), (4, .ref ho)]) hx hb d_L_revision_19 hl (by decide) rfl (fun ls hl => ?_)
      refine lv_iconst (v := 2) hx hb d_L_revision_21 (by decide) ?_
      exact W.iret (v := 2) hx hb hr (fun t ht hW => ⟨⟨2, (), rfl, hcd.symm, fo, x2, ds2, ⟨hk2, fun h => absurd h hne⟩, by rw [ht]; exact hP, va_K.moved hW.alike hK, hD⟩, hS.F ht⟩) hS.2.2 d_L_revision_22
    · have hE : E = "java/lang/IllegalStateException" := by rw [hE, hcd]; rfl
      subst hE
      refine vx_catch (name := "java/lang/IllegalStateException") hown [⟨0, 12, 15, 47⟩, ⟨0, 12, 19, 49⟩] ⟨0, 12, 23, 13⟩ [] (htab.trans rfl) (fun z hz => Or.inr (by rcases List.mem_cons.mp hz with rfl | hz; exact ⟨by decide, "java/util/NoSuchElementException", (hw0 (.classLink "TextKeeperLaw" 47 "java/util/NoSuchElementException") (List.mem_of_getElem? (i := 477) rfl)), hnc.2.1⟩; obtain rfl := List.mem_singleton.mp hz; exact ⟨by decide, "java/lang/IllegalArgumentException", (hw0 (.classLink "TextKeeperLaw" 49 "java/lang/IllegalArgumentException") (List.mem_of_getElem? (i := 478) rfl)), hnc.2.2⟩)) (by decide) (by decide) (hw0 (.classLink "TextKeeperLaw" 13 "java/lang/IllegalStateException") (List.mem_of_getElem? (i := 431) rfl)) (va_Nw.use rfl (hN.1 (.castable "java/lang/IllegalStateException" "java/lang/IllegalStateException") (List.mem_of_getElem? (i := 11) rfl))) hce hcv hcl ?_
      refine W.eq (g2 := F0 m 23 ls [.ref q9]) rfl ?_
      generalize H1 = H at hP hS hce ⊢
      refine W.widen (k := 2) (n := 264) (by decide +kernel) (by decide +kernel) ?_
      refine lv_astore (lv' := [(5, .ref q9), (0, .ref h0), (1, .int a1), (2, .int a2), (3, .int a3), (4, .ref ho)]) hx hb d_L_revision_23 hl (by decide) rfl (fun ls hl => ?_)
      refine lv_iconst (v := 3) hx hb d_L_revision_25 (by decide) ?_
      exact W.iret (v := 3) hx hb hr (fun t ht hW => ⟨⟨3, (), rfl, hcd.symm, fo, x2, ds2, ⟨hk2, fun h => absurd h hne⟩, by rw [ht]; exact hP, va_K.moved hW.alike hK, hD⟩, hS.F ht⟩) hS.2.2 d_L_revision_26
  · obtain ⟨hc0, hr0⟩ : (sRev σ a1 a2 a3).2.1 = 0 ∧ r = (sRev σ a1 a2 a3).2.2 := hw
    obtain ⟨x2, ds2, hk2, hP1, hK1, hD1⟩ := hB
    rw [ht] at hP1
    obtain ⟨hP, hD⟩ := fr_wld (W2 := (([(ho, .inl (cO, 1, .inr (.inl (fo))))] : va_W) ++ kW h0 cB cD cR x2 ds2)) (A := A) (fun q hq => hA q (Nat.le_trans hS0.1 hq)) hP hD List.perm_append_comm hk1 hP1 hD1 (kz List.perm_append_comm)
    clear hPc hDc hKc hFc hP1 hD1 hK1 hk1 hS0
    generalize H1 = H at hP hS ⊢
    refine W.widen (k := 2) (n := 264) (by decide +kernel) (by decide +kernel) ?_
    refine lv_i2l (v := r.toInt64) hx hb d_L_revision_10 rfl ?_
    refine va_last hx hb hK hP hD hS 0 0 rfl rfl (by unfold vp_in; decide +kernel) d_L_revision_11 (fun H locs hP hD hS => ?_)
    replace hP : va_P (dC, dI) vwCl (([(ho, .inl (cO, 1, .inr (.inl (vp_updL (fo) (Int32.toNatClampNeg 0) (r.toInt64)))))] : va_W) ++ kW h0 cB cD cR x2 ds2) H := hP
    replace hD : va_D A (([(ho, .inl (cO, 1, .inr (.inl (vp_updL (fo) (Int32.toNatClampNeg 0) (r.toInt64)))))] : va_W) ++ kW h0 cB cD cR x2 ds2) := hD
    refine lv_goto (tgt := 27) hx hb d_L_revision_12 (by decide) ?_
    refine lv_iconst (v := 0) hx hb d_L_revision_27 (by decide) ?_
    exact W.iret (v := 0) hx hb hr (fun t ht hW => ⟨⟨0, (), rfl, hc0.symm, (vp_updL (fo) (Int32.toNatClampNeg 0) (r.toInt64)), x2, ds2, ⟨hk2, fun _ => x_up0.trans (by rw [hr0])⟩, by rw [ht]; exact hP, va_K.moved hW.alike hK, hD⟩, hS.F ht⟩) hS.2.2 d_L_revision_28
set_option maxHeartbeats 4000000 in
set_option maxRecDepth 100000 in
theorem w_pieceByte (l : Launch) (hl9 : l.stackTraces = false) (dC : Nat → ClassId) (dI : Nat → Nat → Nat) (sz : Nat) (h0 ho : Nat) (cB cD cR cO : ClassId) (fo : Nat → Int64) (x : KX) (ds : Nat → Option Dc) (σ : Sg) (a1 : Int32) (a2 : Int32) (a3 : Int32) (hs : sOk σ) (hk : kOk σ x ds) : Met l y_L_pieceByte k_L_pieceByte ({ frames := 9, cells := 2, slots := 264, locals := 179 } : Room) (va_Pc [.ref h0, .int a1, .int a2, .int a3, .ref ho] (fun U => pc_E (dC, dI) (([(ho, .inl (cO, 1, .inr (.inl (fo))))] : va_W) ++ kW h0 cB cD cR x ds) [(cO, .long), (cB, .byte), (cD, .object R_D), (cR, .object R_V)] sz U ∧ tw_ok U)) (va_Qi (fun (r : Int32) (_ : Unit) => r = (sByte σ a1 a2 a3).2.1) (fun (_ : Unit) t => ∃ (fo2 : Nat → Int64) (x2 : KX) (ds2 : Nat → Option Dc), (kOk (sByte σ a1 a2 a3).1 x2 ds2 ∧ ((sByte σ a1 a2 a3).2.1 = 0 → fo2 0 = (sByte σ a1 a2 a3).2.2.toInt64)) ∧ at_E (dC, dI) (va_A (([(ho, .inl (cO, 1, .inr (.inl (fo))))] : va_W) ++ kW h0 cB cD cR x ds) sz) (([(ho, .inl (cO, 1, .inr (.inl (fo2))))] : va_W) ++ kW h0 cB cD cR x2 ds2) [(cO, .long), (cB, .byte), (cD, .object R_D), (cR, .object R_V)] t) (va_A (([(ho, .inl (cO, 1, .inr (.inl (fo))))] : va_W) ++ kW h0 cB cD cR x ds) sz)) 2 264 (va_A (([(ho, .inl (cO, 1, .inr (.inl (fo))))] : va_W) ++ kW h0 cB cD cR x ds) sz) := by
  refine va_MetW (hh := [(0, 12, 15, 13)]) (cc := method_14_code) (maxL := 6) (ret := (some .int)) (by decide) rfl ?_
  intro p e s m args below meth c s₁ B hml hv
  obtain ⟨rfl, ⟨hsz, hP, hK, hD0, hN⟩, hTw⟩ := hv
  have hx := B.exec
  have hb := B.bytes
  have hr := B.returns
  have hts := atoms_spec (ws := k_L_pieceByte) B.pre
  have hw0 : ∀ w ∈ w0, w.before _ s = true := fun w h => hts w (List.mem_cons_of_mem _ h)
  have hown : s.vm.findClass R_L = some m.cls := findClass_of_methodNamed B.named
  have hlocks := B.notSynchronized
  have htab := vx_table (x := y_L_pieceByte) B (hts (.codeWith y_L_pieceByte method_14_code 6 (some .int) [(0, 12, 15, 13)]) List.mem_cons_self)
  subst hsz
  have hD := hD0.self (sz := s.heap.size)
  generalize hAe : va_A (([(ho, .inl (cO, 1, .inr (.inl (fo))))] : va_W) ++ kW h0 cB cD cR x ds) s.heap.size = A at hD ⊢
  have hA : ∀ q : Nat, s.heap.size ≤ q → A q := fun q h => by rw [← hAe]; exact Or.inr h
  clear hAe hD0
  have hS : va_S A s.heap s.heap [] := va_S.rf
  have hl := lv_entry ([.ref h0, .int a1, .int a2, .int a3, .ref ho]) (n := 6) (Nat.le_of_ble_eq_true rfl)
  rw [lg_entry_eq]
  generalize (lg_sl ([.ref h0, .int a1, .int a2, .int a3, .ref ho]) ++ List.replicate (6 - (lg_sl ([.ref h0, .int a1, .int a2, .int a3, .ref ho])).length) Slot.unset).toArray = ls at hl ⊢
  have hl : lv_has ls 6 [(0, .ref h0), (1, .int a1), (2, .int a2), (3, .int a3), (4, .ref ho)] := hl
  refine lv_aload hx hb d_L_pieceByte_0 (lv_at hl 4 rfl) ?_
  refine lv_iconst (v := 0) hx hb d_L_pieceByte_2 (by decide) ?_
  refine lv_aload_n hx hb d_L_pieceByte_3 rfl (lv_at hl 0 rfl) ?_
  refine lv_iload_n hx hb d_L_pieceByte_4 rfl (lv_at hl 1 rfl) ?_
  refine lv_iload_n hx hb d_L_pieceByte_5 rfl (lv_at hl 2 rfl) ?_
  refine lv_iload_n hx hb d_L_pieceByte_6 rfl (lv_at hl 3 rfl) ?_
  have hPc : va_P (dC, dI) vwCl (kW h0 cB cD cR x ds) s.heap := (hP.perm List.perm_append_comm).left
  have hDc : va_D A (kW h0 cB cD cR x ds) := (hD.perm List.perm_append_comm).left
  have hKc : va_K (dC, dI) vwCl (kT cB cD cR) s := hK.sub [1, 2, 3] rfl
  have hFc : ∀ q : Nat, va_A (kW h0 cB cD cR x ds) s.heap.size q → A q := fr_free hD hS hA List.perm_append_comm
  have hS0 := hS
  refine vx_calli (vx_runV (As := [.int a1, .int a2, .int a3]) (rest := [.int 0, .ref ho]) ⟨hx, hb, hml, hown, hw0⟩ (kMet.out (k_pieceByte l hl9 dC dI s.heap.size h0 cB cD cR x ds σ a1 a2 a3 hs hk)) (cwV 3 hw0 (gd_V 579 580 581 226 701 rfl rfl rfl rfl rfl) rfl rfl rfl (by decide +kernel) ⟨by decide +kernel, by decide +kernel⟩) (prV_T hPc hKc hDc hN hTw (fun _ _ => rfl) (va_recv hKc hPc (ci := 0) (q0 := 0) rfl rfl)) rfl rfl hl.1 rfl (lv_room (Nat.le_of_ble_eq_true rfl)) d_L_pieceByte_7 ⟨by decide +kernel, by decide +kernel⟩) hS (fun q _ h => hFc q h) hFc (fun q _ h => hFc q h) (fun E ce q9 u t H1 locs ht hvm hw hB hz1 hk1 hS hce hcv hcl => ?_) (fun r u t H1 locs ht hvm hw hB hz1 hk1 hS => ?_)
  · obtain ⟨⟨hne, hE⟩, x2, ds2, hk2, hP1, hK1, hD1⟩ := hB
    rw [ht] at hP1
    obtain ⟨hP, hD⟩ := fr_wld (W2 := (([(ho, .inl (cO, 1, .inr (.inl (fo))))] : va_W) ++ kW h0 cB cD cR x2 ds2)) (A := A) (fun q hq => hA q (Nat.le_trans hS0.1 hq)) hP hD List.perm_append_comm hk1 hP1 hD1 (kz List.perm_append_comm)
    clear hPc hDc hKc hFc hP1 hD1 hK1 hk1 hS0
    have hcd : (sByte σ a1 a2 a3).2.1 = 1 := cd_pieceByte.resolve_left hne
    have hE : E = "java/lang/IllegalStateException" := hE
    subst hE
    refine vx_catch (name := "java/lang/IllegalStateException") hown [] ⟨0, 12, 15, 13⟩ [] (htab.trans rfl) (fun z hz => by cases hz) (by decide) (by decide) (hw0 (.classLink "TextKeeperLaw" 13 "java/lang/IllegalStateException") (List.mem_of_getElem? (i := 431) rfl)) (va_Nw.use rfl (hN.1 (.castable "java/lang/IllegalStateException" "java/lang/IllegalStateException") (List.mem_of_getElem? (i := 11) rfl))) hce hcv hcl ?_
    refine W.eq (g2 := F0 m 15 ls [.ref q9]) rfl ?_
    generalize H1 = H at hP hS hce ⊢
    refine W.widen (k := 2) (n := 264) (by decide +kernel) (by decide +kernel) ?_
    refine lv_astore (lv' := [(5, .ref q9), (0, .ref h0), (1, .int a1), (2, .int a2), (3, .int a3), (4, .ref ho)]) hx hb d_L_pieceByte_15 hl (by decide) rfl (fun ls hl => ?_)
    refine lv_iconst (v := 1) hx hb d_L_pieceByte_17 (by decide) ?_
    exact W.iret (v := 1) hx hb hr (fun t ht hW => ⟨⟨1, (), rfl, hcd.symm, fo, x2, ds2, ⟨hk2, fun h => absurd h hne⟩, by rw [ht]; exact hP, va_K.moved hW.alike hK, hD⟩, hS.F ht⟩) hS.2.2 d_L_pieceByte_18
  · obtain ⟨hc0, hr0⟩ : (sByte σ a1 a2 a3).2.1 = 0 ∧ r = (sByte σ a1 a2 a3).2.2 := hw
    obtain ⟨x2, ds2, hk2, hP1, hK1, hD1⟩ := hB
    rw [ht] at hP1
    obtain ⟨hP, hD⟩ := fr_wld (W2 := (([(ho, .inl (cO, 1, .inr (.inl (fo))))] : va_W) ++ kW h0 cB cD cR x2 ds2)) (A := A) (fun q hq => hA q (Nat.le_trans hS0.1 hq)) hP hD List.perm_append_comm hk1 hP1 hD1 (kz List.perm_append_comm)
    clear hPc hDc hKc hFc hP1 hD1 hK1 hk1 hS0
    generalize H1 = H at hP hS ⊢
    refine W.widen (k := 2) (n := 264) (by decide +kernel) (by decide +kernel) ?_
    refine lv_i2l (v := r.toInt64) hx hb d_L_pieceByte_10 rfl ?_
    refine va_last hx hb hK hP hD hS 0 0 rfl rfl (by unfold vp_in; decide +kernel) d_L_pieceByte_11 (fun H locs hP hD hS => ?_)
    replace hP : va_P (dC, dI) vwCl (([(ho, .inl (cO, 1, .inr (.inl (vp_updL (fo) (Int32.toNatClampNeg 0) (r.toInt64)))))] : va_W) ++ kW h0 cB cD cR x2 ds2) H := hP
    replace hD : va_D A (([(ho, .inl (cO, 1, .inr (.inl (vp_updL (fo) (Int32.toNatClampNeg 0) (r.toInt64)))))] : va_W) ++ kW h0 cB cD cR x2 ds2) := hD
    refine lv_goto (tgt := 19) hx hb d_L_pieceByte_12 (by decide) ?_
    refine lv_iconst (v := 0) hx hb d_L_pieceByte_19 (by decide) ?_
    exact W.iret (v := 0) hx hb hr (fun t ht hW => ⟨⟨0, (), rfl, hc0.symm, (vp_updL (fo) (Int32.toNatClampNeg 0) (r.toInt64)), x2, ds2, ⟨hk2, fun _ => x_up0.trans (by rw [hr0])⟩, by rw [ht]; exact hP, va_K.moved hW.alike hK, hD⟩, hS.F ht⟩) hS.2.2 d_L_pieceByte_20
set_option maxHeartbeats 4000000 in
set_option maxRecDepth 100000 in
theorem w_damage (l : Launch) (hl9 : l.stackTraces = false) (dC : Nat → ClassId) (dI : Nat → Nat → Nat) (sz : Nat) (h0 ho : Nat) (cB cD cR cO : ClassId) (fo : Nat → Int64) (x : KX) (ds : Nat → Option Dc) (σ : Sg) (a1 : Int32) (a2 : Int32) (a3 : Int32) (a4 : Int32) (hs : sOk σ) (hk : kOk σ x ds) : Met l y_L_damage k_L_damage ({ frames := 9, cells := 2, slots := 264, locals := 179 } : Room) (va_Pc [.ref h0, .int a1, .int a2, .int a3, .int a4, .ref ho] (fun U => pc_E (dC, dI) (([(ho, .inl (cO, 1, .inr (.inl (fo))))] : va_W) ++ kW h0 cB cD cR x ds) [(cO, .long), (cB, .byte), (cD, .object R_D), (cR, .object R_V)] sz U ∧ tw_ok U)) (va_Qi (fun (r : Int32) (_ : Unit) => r = (sDamage σ a1 a2 a3 a4).2.1) (fun (_ : Unit) t => ∃ (fo2 : Nat → Int64) (x2 : KX) (ds2 : Nat → Option Dc), (kOk (sDamage σ a1 a2 a3 a4).1 x2 ds2 ∧ ((sDamage σ a1 a2 a3 a4).2.1 = 0 → fo2 0 = (if (sDamage σ a1 a2 a3 a4).2.2 = 0 then 0 else 1))) ∧ at_E (dC, dI) (va_A (([(ho, .inl (cO, 1, .inr (.inl (fo))))] : va_W) ++ kW h0 cB cD cR x ds) sz) (([(ho, .inl (cO, 1, .inr (.inl (fo2))))] : va_W) ++ kW h0 cB cD cR x2 ds2) [(cO, .long), (cB, .byte), (cD, .object R_D), (cR, .object R_V)] t) (va_A (([(ho, .inl (cO, 1, .inr (.inl (fo))))] : va_W) ++ kW h0 cB cD cR x ds) sz)) 2 264 (va_A (([(ho, .inl (cO, 1, .inr (.inl (fo))))] : va_W) ++ kW h0 cB cD cR x ds) sz) := by
  refine va_MetW (hh := [(0, 21, 24, 13)]) (cc := method_15_code) (maxL := 7) (ret := (some .int)) (by decide) rfl ?_
  intro p e s m args below meth c s₁ B hml hv
  obtain ⟨rfl, ⟨hsz, hP, hK, hD0, hN⟩, hTw⟩ := hv
  have hx := B.exec
  have hb := B.bytes
  have hr := B.returns
  have hts := atoms_spec (ws := k_L_damage) B.pre
  have hw0 : ∀ w ∈ w0, w.before _ s = true := fun w h => hts w (List.mem_cons_of_mem _ h)
  have hown : s.vm.findClass R_L = some m.cls := findClass_of_methodNamed B.named
  have hlocks := B.notSynchronized
  have htab := vx_table (x := y_L_damage) B (hts (.codeWith y_L_damage method_15_code 7 (some .int) [(0, 21, 24, 13)]) List.mem_cons_self)
  subst hsz
  have hD := hD0.self (sz := s.heap.size)
  generalize hAe : va_A (([(ho, .inl (cO, 1, .inr (.inl (fo))))] : va_W) ++ kW h0 cB cD cR x ds) s.heap.size = A at hD ⊢
  have hA : ∀ q : Nat, s.heap.size ≤ q → A q := fun q h => by rw [← hAe]; exact Or.inr h
  clear hAe hD0
  have hS : va_S A s.heap s.heap [] := va_S.rf
  have hl := lv_entry ([.ref h0, .int a1, .int a2, .int a3, .int a4, .ref ho]) (n := 7) (Nat.le_of_ble_eq_true rfl)
  rw [lg_entry_eq]
  generalize (lg_sl ([.ref h0, .int a1, .int a2, .int a3, .int a4, .ref ho]) ++ List.replicate (7 - (lg_sl ([.ref h0, .int a1, .int a2, .int a3, .int a4, .ref ho])).length) Slot.unset).toArray = ls at hl ⊢
  have hl : lv_has ls 7 [(0, .ref h0), (1, .int a1), (2, .int a2), (3, .int a3), (4, .int a4), (5, .ref ho)] := hl
  refine lv_aload hx hb d_L_damage_0 (lv_at hl 5 rfl) ?_
  refine lv_iconst (v := 0) hx hb d_L_damage_2 (by decide) ?_
  refine lv_aload_n hx hb d_L_damage_3 rfl (lv_at hl 0 rfl) ?_
  refine lv_iload_n hx hb d_L_damage_4 rfl (lv_at hl 1 rfl) ?_
  refine lv_iload_n hx hb d_L_damage_5 rfl (lv_at hl 2 rfl) ?_
  refine lv_iload_n hx hb d_L_damage_6 rfl (lv_at hl 3 rfl) ?_
  refine lv_iload hx hb d_L_damage_7 (lv_at hl 4 rfl) ?_
  have hPc : va_P (dC, dI) vwCl (kW h0 cB cD cR x ds) s.heap := (hP.perm List.perm_append_comm).left
  have hDc : va_D A (kW h0 cB cD cR x ds) := (hD.perm List.perm_append_comm).left
  have hKc : va_K (dC, dI) vwCl (kT cB cD cR) s := hK.sub [1, 2, 3] rfl
  have hFc : ∀ q : Nat, va_A (kW h0 cB cD cR x ds) s.heap.size q → A q := fr_free hD hS hA List.perm_append_comm
  have hS0 := hS
  refine vx_calli (vx_runV (As := [.int a1, .int a2, .int a3, .int a4]) (rest := [.int 0, .ref ho]) ⟨hx, hb, hml, hown, hw0⟩ (kMet.out (k_damage l hl9 dC dI s.heap.size h0 cB cD cR x ds σ a1 a2 a3 a4 hs hk)) (cwV 4 hw0 (gd_V 584 585 586 226 703 rfl rfl rfl rfl rfl) rfl rfl rfl (by decide +kernel) ⟨by decide +kernel, by decide +kernel⟩) (prV_T hPc hKc hDc hN hTw (fun _ _ => rfl) (va_recv hKc hPc (ci := 0) (q0 := 0) rfl rfl)) rfl rfl hl.1 rfl (lv_room (Nat.le_of_ble_eq_true rfl)) d_L_damage_9 ⟨by decide +kernel, by decide +kernel⟩) hS (fun q _ h => hFc q h) hFc (fun q _ h => hFc q h) (fun E ce q9 u t H1 locs ht hvm hw hB hz1 hk1 hS hce hcv hcl => ?_) (fun r u t H1 locs ht hvm hw hB hz1 hk1 hS => ?_)
  · obtain ⟨⟨hne, hE⟩, x2, ds2, hk2, hP1, hK1, hD1⟩ := hB
    rw [ht] at hP1
    obtain ⟨hP, hD⟩ := fr_wld (W2 := (([(ho, .inl (cO, 1, .inr (.inl (fo))))] : va_W) ++ kW h0 cB cD cR x2 ds2)) (A := A) (fun q hq => hA q (Nat.le_trans hS0.1 hq)) hP hD List.perm_append_comm hk1 hP1 hD1 (kz List.perm_append_comm)
    clear hPc hDc hKc hFc hP1 hD1 hK1 hk1 hS0
    have hcd : (sDamage σ a1 a2 a3 a4).2.1 = 1 := cd_damage.resolve_left hne
    have hE : E = "java/lang/IllegalStateException" := hE
    subst hE
    refine vx_catch (name := "java/lang/IllegalStateException") hown [] ⟨0, 21, 24, 13⟩ [] (htab.trans rfl) (fun z hz => by cases hz) (by decide) (by decide) (hw0 (.classLink "TextKeeperLaw" 13 "java/lang/IllegalStateException") (List.mem_of_getElem? (i := 431) rfl)) (va_Nw.use rfl (hN.1 (.castable "java/lang/IllegalStateException" "java/lang/IllegalStateException") (List.mem_of_getElem? (i := 11) rfl))) hce hcv hcl ?_
    refine W.eq (g2 := F0 m 24 ls [.ref q9]) rfl ?_
    generalize H1 = H at hP hS hce ⊢
    refine W.widen (k := 2) (n := 264) (by decide +kernel) (by decide +kernel) ?_
    refine lv_astore (lv' := [(6, .ref q9), (0, .ref h0), (1, .int a1), (2, .int a2), (3, .int a3), (4, .int a4), (5, .ref ho)]) hx hb d_L_damage_24 hl (by decide) rfl (fun ls hl => ?_)
    refine lv_iconst (v := 1) hx hb d_L_damage_26 (by decide) ?_
    exact W.iret (v := 1) hx hb hr (fun t ht hW => ⟨⟨1, (), rfl, hcd.symm, fo, x2, ds2, ⟨hk2, fun h => absurd h hne⟩, by rw [ht]; exact hP, va_K.moved hW.alike hK, hD⟩, hS.F ht⟩) hS.2.2 d_L_damage_27
  · obtain ⟨hc0, hr0⟩ : (sDamage σ a1 a2 a3 a4).2.1 = 0 ∧ r = (sDamage σ a1 a2 a3 a4).2.2 := hw
    obtain ⟨x2, ds2, hk2, hP1, hK1, hD1⟩ := hB
    rw [ht] at hP1
    obtain ⟨hP, hD⟩ := fr_wld (W2 := (([(ho, .inl (cO, 1, .inr (.inl (fo))))] : va_W) ++ kW h0 cB cD cR x2 ds2)) (A := A) (fun q hq => hA q (Nat.le_trans hS0.1 hq)) hP hD List.perm_append_comm hk1 hP1 hD1 (kz List.perm_append_comm)
    clear hPc hDc hKc hFc hP1 hD1 hK1 hk1 hS0
    generalize H1 = H at hP hS ⊢
    refine W.widen (k := 2) (n := 264) (by decide +kernel) (by decide +kernel) ?_
    refine lv_if_eq (tgt := 19) hx hb d_L_damage_12 (by decide) (fun c_1 => ?_) (fun c_1 => ?_)
    · refine lv_lconst (v := 0) hx hb d_L_damage_19 (by decide) ?_
      refine va_last hx hb hK hP hD hS 0 0 rfl rfl (by unfold vp_in; decide +kernel) d_L_damage_20 (fun H locs hP hD hS => ?_)
      replace hP : va_P (dC, dI) vwCl (([(ho, .inl (cO, 1, .inr (.inl (vp_updL (fo) (Int32.toNatClampNeg 0) (0)))))] : va_W) ++ kW h0 cB cD cR x2 ds2) H := hP
      replace hD : va_D A (([(ho, .inl (cO, 1, .inr (.inl (vp_updL (fo) (Int32.toNatClampNeg 0) (0)))))] : va_W) ++ kW h0 cB cD cR x2 ds2) := hD
      refine lv_goto (tgt := 28) hx hb d_L_damage_21 (by decide) ?_
      refine lv_iconst (v := 0) hx hb d_L_damage_28 (by decide) ?_
      exact W.iret (v := 0) hx hb hr (fun t ht hW => ⟨⟨0, (), rfl, hc0.symm, (vp_updL (fo) (Int32.toNatClampNeg 0) (0)), x2, ds2, ⟨hk2, fun _ => x_up0.trans (by rw [← hr0]; exact (if_pos c_1).symm)⟩, by rw [ht]; exact hP, va_K.moved hW.alike hK, hD⟩, hS.F ht⟩) hS.2.2 d_L_damage_29
    · refine lv_lconst (v := 1) hx hb d_L_damage_15 (by decide) ?_
      refine lv_goto (tgt := 20) hx hb d_L_damage_16 (by decide) ?_
      refine va_last hx hb hK hP hD hS 0 0 rfl rfl (by unfold vp_in; decide +kernel) d_L_damage_20 (fun H locs hP hD hS => ?_)
      replace hP : va_P (dC, dI) vwCl (([(ho, .inl (cO, 1, .inr (.inl (vp_updL (fo) (Int32.toNatClampNeg 0) (1)))))] : va_W) ++ kW h0 cB cD cR x2 ds2) H := hP
      replace hD : va_D A (([(ho, .inl (cO, 1, .inr (.inl (vp_updL (fo) (Int32.toNatClampNeg 0) (1)))))] : va_W) ++ kW h0 cB cD cR x2 ds2) := hD
      refine lv_goto (tgt := 28) hx hb d_L_damage_21 (by decide) ?_
      refine lv_iconst (v := 0) hx hb d_L_damage_28 (by decide) ?_
      exact W.iret (v := 0) hx hb hr (fun t ht hW => ⟨⟨0, (), rfl, hc0.symm, (vp_updL (fo) (Int32.toNatClampNeg 0) (1)), x2, ds2, ⟨hk2, fun _ => x_up0.trans (by rw [← hr0]; exact (if_neg c_1).symm)⟩, by rw [ht]; exact hP, va_K.moved hW.alike hK, hD⟩, hS.F ht⟩) hS.2.2 d_L_damage_29
set_option maxHeartbeats 4000000 in
set_option maxRecDepth 100000 in
theorem w_verify (l : Launch) (hl9 : l.stackTraces = false) (dC : Nat → ClassId) (dI : Nat → Nat → Nat) (sz : Nat) (h0 ho : Nat) (cB cD cR cO : ClassId) (fo : Nat → Int64) (x : KX) (ds : Nat → Option Dc) (σ : Sg) (a1 : Int32) (hs : sOk σ) (hk : kOk σ x ds) : Met l y_L_verify k_L_verify ({ frames := 9, cells := 2, slots := 264, locals := 179 } : Room) (va_Pc [.ref h0, .int a1, .ref ho] (fun U => pc_E (dC, dI) (([(ho, .inl (cO, 1, .inr (.inl (fo))))] : va_W) ++ kW h0 cB cD cR x ds) [(cO, .long), (cB, .byte), (cD, .object R_D), (cR, .object R_V)] sz U ∧ tw_ok U)) (va_Qi (fun (r : Int32) (_ : Unit) => r = (sVerify σ a1).2.1) (fun (_ : Unit) t => ∃ (fo2 : Nat → Int64) (x2 : KX) (ds2 : Nat → Option Dc), (kOk (sVerify σ a1).1 x2 ds2 ∧ ((sVerify σ a1).2.1 = 0 → fo2 0 = (sVerify σ a1).2.2.toInt64)) ∧ at_E (dC, dI) (va_A (([(ho, .inl (cO, 1, .inr (.inl (fo))))] : va_W) ++ kW h0 cB cD cR x ds) sz) (([(ho, .inl (cO, 1, .inr (.inl (fo2))))] : va_W) ++ kW h0 cB cD cR x2 ds2) [(cO, .long), (cB, .byte), (cD, .object R_D), (cR, .object R_V)] t) (va_A (([(ho, .inl (cO, 1, .inr (.inl (fo))))] : va_W) ++ kW h0 cB cD cR x ds) sz)) 2 264 (va_A (([(ho, .inl (cO, 1, .inr (.inl (fo))))] : va_W) ++ kW h0 cB cD cR x ds) sz) := by
  refine va_MetW (hh := [(0, 9, 12, 13)]) (cc := method_16_code) (maxL := 4) (ret := (some .int)) (by decide) rfl ?_
  intro p e s m args below meth c s₁ B hml hv
  obtain ⟨rfl, ⟨hsz, hP, hK, hD0, hN⟩, hTw⟩ := hv
  have hx := B.exec
  have hb := B.bytes
  have hr := B.returns
  have hts := atoms_spec (ws := k_L_verify) B.pre
  have hw0 : ∀ w ∈ w0, w.before _ s = true := fun w h => hts w (List.mem_cons_of_mem _ h)
  have hown : s.vm.findClass R_L = some m.cls := findClass_of_methodNamed B.named
  have hlocks := B.notSynchronized
  have htab := vx_table (x := y_L_verify) B (hts (.codeWith y_L_verify method_16_code 4 (some .int) [(0, 9, 12, 13)]) List.mem_cons_self)
  subst hsz
  have hD := hD0.self (sz := s.heap.size)
  generalize hAe : va_A (([(ho, .inl (cO, 1, .inr (.inl (fo))))] : va_W) ++ kW h0 cB cD cR x ds) s.heap.size = A at hD ⊢
  have hA : ∀ q : Nat, s.heap.size ≤ q → A q := fun q h => by rw [← hAe]; exact Or.inr h
  clear hAe hD0
  have hS : va_S A s.heap s.heap [] := va_S.rf
  have hl := lv_entry ([.ref h0, .int a1, .ref ho]) (n := 4) (Nat.le_of_ble_eq_true rfl)
  rw [lg_entry_eq]
  generalize (lg_sl ([.ref h0, .int a1, .ref ho]) ++ List.replicate (4 - (lg_sl ([.ref h0, .int a1, .ref ho])).length) Slot.unset).toArray = ls at hl ⊢
  have hl : lv_has ls 4 [(0, .ref h0), (1, .int a1), (2, .ref ho)] := hl
  refine lv_aload_n hx hb d_L_verify_0 rfl (lv_at hl 2 rfl) ?_
  refine lv_iconst (v := 0) hx hb d_L_verify_1 (by decide) ?_
  refine lv_aload_n hx hb d_L_verify_2 rfl (lv_at hl 0 rfl) ?_
  refine lv_iload_n hx hb d_L_verify_3 rfl (lv_at hl 1 rfl) ?_
  have hPc : va_P (dC, dI) vwCl (kW h0 cB cD cR x ds) s.heap := (hP.perm List.perm_append_comm).left
  have hDc : va_D A (kW h0 cB cD cR x ds) := (hD.perm List.perm_append_comm).left
  have hKc : va_K (dC, dI) vwCl (kT cB cD cR) s := hK.sub [1, 2, 3] rfl
  have hFc : ∀ q : Nat, va_A (kW h0 cB cD cR x ds) s.heap.size q → A q := fr_free hD hS hA List.perm_append_comm
  have hS0 := hS
  refine vx_calli (vx_runV (As := [.int a1]) (rest := [.int 0, .ref ho]) ⟨hx, hb, hml, hown, hw0⟩ (kMet.out (k_verify l hl9 dC dI s.heap.size h0 cB cD cR x ds σ a1 hs hk)) (cwV 1 hw0 (gd_V 589 590 591 226 705 rfl rfl rfl rfl rfl) rfl rfl rfl (by decide +kernel) ⟨by decide +kernel, by decide +kernel⟩) (prV_T hPc hKc hDc hN hTw (fun _ _ => rfl) (va_recv hKc hPc (ci := 0) (q0 := 0) rfl rfl)) rfl rfl hl.1 rfl (lv_room (Nat.le_of_ble_eq_true rfl)) d_L_verify_4 ⟨by decide +kernel, by decide +kernel⟩) hS (fun q _ h => hFc q h) hFc (fun q _ h => hFc q h) (fun E ce q9 u t H1 locs ht hvm hw hB hz1 hk1 hS hce hcv hcl => ?_) (fun r u t H1 locs ht hvm hw hB hz1 hk1 hS => ?_)
  · obtain ⟨⟨hne, hE⟩, x2, ds2, hk2, hP1, hK1, hD1⟩ := hB
    rw [ht] at hP1
    obtain ⟨hP, hD⟩ := fr_wld (W2 := (([(ho, .inl (cO, 1, .inr (.inl (fo))))] : va_W) ++ kW h0 cB cD cR x2 ds2)) (A := A) (fun q hq => hA q (Nat.le_trans hS0.1 hq)) hP hD List.perm_append_comm hk1 hP1 hD1 (kz List.perm_append_comm)
    clear hPc hDc hKc hFc hP1 hD1 hK1 hk1 hS0
    have hcd : (sVerify σ a1).2.1 = 1 := cd_verify.resolve_left hne
    have hE : E = "java/lang/IllegalStateException" := hE
    subst hE
    refine vx_catch (name := "java/lang/IllegalStateException") hown [] ⟨0, 9, 12, 13⟩ [] (htab.trans rfl) (fun z hz => by cases hz) (by decide) (by decide) (hw0 (.classLink "TextKeeperLaw" 13 "java/lang/IllegalStateException") (List.mem_of_getElem? (i := 431) rfl)) (va_Nw.use rfl (hN.1 (.castable "java/lang/IllegalStateException" "java/lang/IllegalStateException") (List.mem_of_getElem? (i := 11) rfl))) hce hcv hcl ?_
    refine W.eq (g2 := F0 m 12 ls [.ref q9]) rfl ?_
    generalize H1 = H at hP hS hce ⊢
    refine W.widen (k := 2) (n := 264) (by decide +kernel) (by decide +kernel) ?_
    refine lv_astore_n (lv' := [(3, .ref q9), (0, .ref h0), (1, .int a1), (2, .ref ho)]) hx hb d_L_verify_12 rfl hl (by decide) rfl (fun ls hl => ?_)
    refine lv_iconst (v := 1) hx hb d_L_verify_13 (by decide) ?_
    exact W.iret (v := 1) hx hb hr (fun t ht hW => ⟨⟨1, (), rfl, hcd.symm, fo, x2, ds2, ⟨hk2, fun h => absurd h hne⟩, by rw [ht]; exact hP, va_K.moved hW.alike hK, hD⟩, hS.F ht⟩) hS.2.2 d_L_verify_14
  · obtain ⟨hc0, hr0⟩ : (sVerify σ a1).2.1 = 0 ∧ r = (sVerify σ a1).2.2 := hw
    obtain ⟨x2, ds2, hk2, hP1, hK1, hD1⟩ := hB
    rw [ht] at hP1
    obtain ⟨hP, hD⟩ := fr_wld (W2 := (([(ho, .inl (cO, 1, .inr (.inl (fo))))] : va_W) ++ kW h0 cB cD cR x2 ds2)) (A := A) (fun q hq => hA q (Nat.le_trans hS0.1 hq)) hP hD List.perm_append_comm hk1 hP1 hD1 (kz List.perm_append_comm)
    clear hPc hDc hKc hFc hP1 hD1 hK1 hk1 hS0
    generalize H1 = H at hP hS ⊢
    refine W.widen (k := 2) (n := 264) (by decide +kernel) (by decide +kernel) ?_
    refine lv_i2l (v := r.toInt64) hx hb d_L_verify_7 rfl ?_
    refine va_last hx hb hK hP hD hS 0 0 rfl rfl (by unfold vp_in; decide +kernel) d_L_verify_8 (fun H locs hP hD hS => ?_)
    replace hP : va_P (dC, dI) vwCl (([(ho, .inl (cO, 1, .inr (.inl (vp_updL (fo) (Int32.toNatClampNeg 0) (r.toInt64)))))] : va_W) ++ kW h0 cB cD cR x2 ds2) H := hP
    replace hD : va_D A (([(ho, .inl (cO, 1, .inr (.inl (vp_updL (fo) (Int32.toNatClampNeg 0) (r.toInt64)))))] : va_W) ++ kW h0 cB cD cR x2 ds2) := hD
    refine lv_goto (tgt := 15) hx hb d_L_verify_9 (by decide) ?_
    refine lv_iconst (v := 0) hx hb d_L_verify_15 (by decide) ?_
    exact W.iret (v := 0) hx hb hr (fun t ht hW => ⟨⟨0, (), rfl, hc0.symm, (vp_updL (fo) (Int32.toNatClampNeg 0) (r.toInt64)), x2, ds2, ⟨hk2, fun _ => x_up0.trans (by rw [hr0])⟩, by rw [ht]; exact hP, va_K.moved hW.alike hK, hD⟩, hS.F ht⟩) hS.2.2 d_L_verify_16
set_option maxHeartbeats 4000000 in
set_option maxRecDepth 100000 in
theorem w_common (l : Launch) (hl9 : l.stackTraces = false) (dC : Nat → ClassId) (dI : Nat → Nat → Nat) (sz : Nat) (h0 ho : Nat) (cB cD cR cO : ClassId) (fo : Nat → Int64) (x : KX) (ds : Nat → Option Dc) (σ : Sg) (a1 : Int32) (a2 : Int32) (a3 : Int32) (a4 : Int32) (hs : sOk σ) (hk : kOk σ x ds) : Met l y_L_common k_L_common ({ frames := 9, cells := 2, slots := 264, locals := 179 } : Room) (va_Pc [.ref h0, .int a1, .int a2, .int a3, .int a4, .ref ho] (fun U => pc_E (dC, dI) (([(ho, .inl (cO, 1, .inr (.inl (fo))))] : va_W) ++ kW h0 cB cD cR x ds) [(cO, .long), (cB, .byte), (cD, .object R_D), (cR, .object R_V)] sz U ∧ tw_ok U)) (va_Qi (fun (r : Int32) (_ : Unit) => r = (sCommon σ a1 a2 a3 a4).2.1) (fun (_ : Unit) t => ∃ (fo2 : Nat → Int64) (x2 : KX) (ds2 : Nat → Option Dc), (kOk (sCommon σ a1 a2 a3 a4).1 x2 ds2 ∧ ((sCommon σ a1 a2 a3 a4).2.1 = 0 → fo2 0 = (sCommon σ a1 a2 a3 a4).2.2.toInt64)) ∧ at_E (dC, dI) (va_A (([(ho, .inl (cO, 1, .inr (.inl (fo))))] : va_W) ++ kW h0 cB cD cR x ds) sz) (([(ho, .inl (cO, 1, .inr (.inl (fo2))))] : va_W) ++ kW h0 cB cD cR x2 ds2) [(cO, .long), (cB, .byte), (cD, .object R_D), (cR, .object R_V)] t) (va_A (([(ho, .inl (cO, 1, .inr (.inl (fo))))] : va_W) ++ kW h0 cB cD cR x ds) sz)) 2 264 (va_A (([(ho, .inl (cO, 1, .inr (.inl (fo))))] : va_W) ++ kW h0 cB cD cR x ds) sz) := by
  refine va_MetW (hh := [(0, 14, 17, 13)]) (cc := method_17_code) (maxL := 7) (ret := (some .int)) (by decide) rfl ?_
  intro p e s m args below meth c s₁ B hml hv
  obtain ⟨rfl, ⟨hsz, hP, hK, hD0, hN⟩, hTw⟩ := hv
  have hx := B.exec
  have hb := B.bytes
  have hr := B.returns
  have hts := atoms_spec (ws := k_L_common) B.pre
  have hw0 : ∀ w ∈ w0, w.before _ s = true := fun w h => hts w (List.mem_cons_of_mem _ h)
  have hown : s.vm.findClass R_L = some m.cls := findClass_of_methodNamed B.named
  have hlocks := B.notSynchronized
  have htab := vx_table (x := y_L_common) B (hts (.codeWith y_L_common method_17_code 7 (some .int) [(0, 14, 17, 13)]) List.mem_cons_self)
  subst hsz
  have hD := hD0.self (sz := s.heap.size)
  generalize hAe : va_A (([(ho, .inl (cO, 1, .inr (.inl (fo))))] : va_W) ++ kW h0 cB cD cR x ds) s.heap.size = A at hD ⊢
  have hA : ∀ q : Nat, s.heap.size ≤ q → A q := fun q h => by rw [← hAe]; exact Or.inr h
  clear hAe hD0
  have hS : va_S A s.heap s.heap [] := va_S.rf
  have hl := lv_entry ([.ref h0, .int a1, .int a2, .int a3, .int a4, .ref ho]) (n := 7) (Nat.le_of_ble_eq_true rfl)
  rw [lg_entry_eq]
  generalize (lg_sl ([.ref h0, .int a1, .int a2, .int a3, .int a4, .ref ho]) ++ List.replicate (7 - (lg_sl ([.ref h0, .int a1, .int a2, .int a3, .int a4, .ref ho])).length) Slot.unset).toArray = ls at hl ⊢
  have hl : lv_has ls 7 [(0, .ref h0), (1, .int a1), (2, .int a2), (3, .int a3), (4, .int a4), (5, .ref ho)] := hl
  refine lv_aload hx hb d_L_common_0 (lv_at hl 5 rfl) ?_
  refine lv_iconst (v := 0) hx hb d_L_common_2 (by decide) ?_
  refine lv_aload_n hx hb d_L_common_3 rfl (lv_at hl 0 rfl) ?_
  refine lv_iload_n hx hb d_L_common_4 rfl (lv_at hl 1 rfl) ?_
  refine lv_iload_n hx hb d_L_common_5 rfl (lv_at hl 2 rfl) ?_
  refine lv_iload_n hx hb d_L_common_6 rfl (lv_at hl 3 rfl) ?_
  refine lv_iload hx hb d_L_common_7 (lv_at hl 4 rfl) ?_
  have hPc : va_P (dC, dI) vwCl (kW h0 cB cD cR x ds) s.heap := (hP.perm List.perm_append_comm).left
  have hDc : va_D A (kW h0 cB cD cR x ds) := (hD.perm List.perm_append_comm).left
  have hKc : va_K (dC, dI) vwCl (kT cB cD cR) s := hK.sub [1, 2, 3] rfl
  have hFc : ∀ q : Nat, va_A (kW h0 cB cD cR x ds) s.heap.size q → A q := fr_free hD hS hA List.perm_append_comm
  have hS0 := hS
  refine vx_calli (vx_runV (As := [.int a1, .int a2, .int a3, .int a4]) (rest := [.int 0, .ref ho]) ⟨hx, hb, hml, hown, hw0⟩ (kMet.out (k_common l hl9 dC dI s.heap.size h0 cB cD cR x ds σ a1 a2 a3 a4 hs hk)) (cwV 4 hw0 (gd_V 596 597 598 226 708 rfl rfl rfl rfl rfl) rfl rfl rfl (by decide +kernel) ⟨by decide +kernel, by decide +kernel⟩) (prV_T hPc hKc hDc hN hTw (fun _ _ => rfl) (va_recv hKc hPc (ci := 0) (q0 := 0) rfl rfl)) rfl rfl hl.1 rfl (lv_room (Nat.le_of_ble_eq_true rfl)) d_L_common_9 ⟨by decide +kernel, by decide +kernel⟩) hS (fun q _ h => hFc q h) hFc (fun q _ h => hFc q h) (fun E ce q9 u t H1 locs ht hvm hw hB hz1 hk1 hS hce hcv hcl => ?_) (fun r u t H1 locs ht hvm hw hB hz1 hk1 hS => ?_)
  · obtain ⟨⟨hne, hE⟩, x2, ds2, hk2, hP1, hK1, hD1⟩ := hB
    rw [ht] at hP1
    obtain ⟨hP, hD⟩ := fr_wld (W2 := (([(ho, .inl (cO, 1, .inr (.inl (fo))))] : va_W) ++ kW h0 cB cD cR x2 ds2)) (A := A) (fun q hq => hA q (Nat.le_trans hS0.1 hq)) hP hD List.perm_append_comm hk1 hP1 hD1 (kz List.perm_append_comm)
    clear hPc hDc hKc hFc hP1 hD1 hK1 hk1 hS0
    have hcd : (sCommon σ a1 a2 a3 a4).2.1 = 1 := cd_common.resolve_left hne
    have hE : E = "java/lang/IllegalStateException" := hE
    subst hE
    refine vx_catch (name := "java/lang/IllegalStateException") hown [] ⟨0, 14, 17, 13⟩ [] (htab.trans rfl) (fun z hz => by cases hz) (by decide) (by decide) (hw0 (.classLink "TextKeeperLaw" 13 "java/lang/IllegalStateException") (List.mem_of_getElem? (i := 431) rfl)) (va_Nw.use rfl (hN.1 (.castable "java/lang/IllegalStateException" "java/lang/IllegalStateException") (List.mem_of_getElem? (i := 11) rfl))) hce hcv hcl ?_
    refine W.eq (g2 := F0 m 17 ls [.ref q9]) rfl ?_
    generalize H1 = H at hP hS hce ⊢
    refine W.widen (k := 2) (n := 264) (by decide +kernel) (by decide +kernel) ?_
    refine lv_astore (lv' := [(6, .ref q9), (0, .ref h0), (1, .int a1), (2, .int a2), (3, .int a3), (4, .int a4), (5, .ref ho)]) hx hb d_L_common_17 hl (by decide) rfl (fun ls hl => ?_)
    refine lv_iconst (v := 1) hx hb d_L_common_19 (by decide) ?_
    exact W.iret (v := 1) hx hb hr (fun t ht hW => ⟨⟨1, (), rfl, hcd.symm, fo, x2, ds2, ⟨hk2, fun h => absurd h hne⟩, by rw [ht]; exact hP, va_K.moved hW.alike hK, hD⟩, hS.F ht⟩) hS.2.2 d_L_common_20
  · obtain ⟨hc0, hr0⟩ : (sCommon σ a1 a2 a3 a4).2.1 = 0 ∧ r = (sCommon σ a1 a2 a3 a4).2.2 := hw
    obtain ⟨x2, ds2, hk2, hP1, hK1, hD1⟩ := hB
    rw [ht] at hP1
    obtain ⟨hP, hD⟩ := fr_wld (W2 := (([(ho, .inl (cO, 1, .inr (.inl (fo))))] : va_W) ++ kW h0 cB cD cR x2 ds2)) (A := A) (fun q hq => hA q (Nat.le_trans hS0.1 hq)) hP hD List.perm_append_comm hk1 hP1 hD1 (kz List.perm_append_comm)
    clear hPc hDc hKc hFc hP1 hD1 hK1 hk1 hS0
    generalize H1 = H at hP hS ⊢
    refine W.widen (k := 2) (n := 264) (by decide +kernel) (by decide +kernel) ?_
    refine lv_i2l (v := r.toInt64) hx hb d_L_common_12 rfl ?_
    refine va_last hx hb hK hP hD hS 0 0 rfl rfl (by unfold vp_in; decide +kernel) d_L_common_13 (fun H locs hP hD hS => ?_)
    replace hP : va_P (dC, dI) vwCl (([(ho, .inl (cO, 1, .inr (.inl (vp_updL (fo) (Int32.toNatClampNeg 0) (r.toInt64)))))] : va_W) ++ kW h0 cB cD cR x2 ds2) H := hP
    replace hD : va_D A (([(ho, .inl (cO, 1, .inr (.inl (vp_updL (fo) (Int32.toNatClampNeg 0) (r.toInt64)))))] : va_W) ++ kW h0 cB cD cR x2 ds2) := hD
    refine lv_goto (tgt := 21) hx hb d_L_common_14 (by decide) ?_
    refine lv_iconst (v := 0) hx hb d_L_common_21 (by decide) ?_
    exact W.iret (v := 0) hx hb hr (fun t ht hW => ⟨⟨0, (), rfl, hc0.symm, (vp_updL (fo) (Int32.toNatClampNeg 0) (r.toInt64)), x2, ds2, ⟨hk2, fun _ => x_up0.trans (by rw [hr0])⟩, by rw [ht]; exact hP, va_K.moved hW.alike hK, hD⟩, hS.F ht⟩) hS.2.2 d_L_common_22
set_option maxHeartbeats 4000000 in
set_option maxRecDepth 100000 in
theorem w_freeBlocks (l : Launch) (hl9 : l.stackTraces = false) (dC : Nat → ClassId) (dI : Nat → Nat → Nat) (sz : Nat) (h0 ho : Nat) (cB cD cR cO : ClassId) (fo : Nat → Int64) (x : KX) (ds : Nat → Option Dc) (σ : Sg) (hs : sOk σ) (hk : kOk σ x ds) : Met l y_L_freeBlocks k_L_freeBlocks ({ frames := 9, cells := 2, slots := 264, locals := 179 } : Room) (va_Pc [.ref h0, .ref ho] (fun U => pc_E (dC, dI) (([(ho, .inl (cO, 1, .inr (.inl (fo))))] : va_W) ++ kW h0 cB cD cR x ds) [(cO, .long), (cB, .byte), (cD, .object R_D), (cR, .object R_V)] sz U ∧ tw_ok U)) (va_Qi (fun (r : Int32) (_ : Unit) => r = (sFree σ).2.1) (fun (_ : Unit) t => ∃ (fo2 : Nat → Int64) (x2 : KX) (ds2 : Nat → Option Dc), (kOk (sFree σ).1 x2 ds2 ∧ ((sFree σ).2.1 = 0 → fo2 0 = (sFree σ).2.2.toInt64)) ∧ at_E (dC, dI) (va_A (([(ho, .inl (cO, 1, .inr (.inl (fo))))] : va_W) ++ kW h0 cB cD cR x ds) sz) (([(ho, .inl (cO, 1, .inr (.inl (fo2))))] : va_W) ++ kW h0 cB cD cR x2 ds2) [(cO, .long), (cB, .byte), (cD, .object R_D), (cR, .object R_V)] t) (va_A (([(ho, .inl (cO, 1, .inr (.inl (fo))))] : va_W) ++ kW h0 cB cD cR x ds) sz)) 2 264 (va_A (([(ho, .inl (cO, 1, .inr (.inl (fo))))] : va_W) ++ kW h0 cB cD cR x ds) sz) := by
  refine va_MetW (hh := [(0, 8, 11, 13)]) (cc := method_18_code) (maxL := 3) (ret := (some .int)) (by decide) rfl ?_
  intro p e s m args below meth c s₁ B hml hv
  obtain ⟨rfl, ⟨hsz, hP, hK, hD0, hN⟩, hTw⟩ := hv
  have hx := B.exec
  have hb := B.bytes
  have hr := B.returns
  have hts := atoms_spec (ws := k_L_freeBlocks) B.pre
  have hw0 : ∀ w ∈ w0, w.before _ s = true := fun w h => hts w (List.mem_cons_of_mem _ h)
  have hown : s.vm.findClass R_L = some m.cls := findClass_of_methodNamed B.named
  have hlocks := B.notSynchronized
  have htab := vx_table (x := y_L_freeBlocks) B (hts (.codeWith y_L_freeBlocks method_18_code 3 (some .int) [(0, 8, 11, 13)]) List.mem_cons_self)
  subst hsz
  have hD := hD0.self (sz := s.heap.size)
  generalize hAe : va_A (([(ho, .inl (cO, 1, .inr (.inl (fo))))] : va_W) ++ kW h0 cB cD cR x ds) s.heap.size = A at hD ⊢
  have hA : ∀ q : Nat, s.heap.size ≤ q → A q := fun q h => by rw [← hAe]; exact Or.inr h
  clear hAe hD0
  have hS : va_S A s.heap s.heap [] := va_S.rf
  have hl := lv_entry ([.ref h0, .ref ho]) (n := 3) (Nat.le_of_ble_eq_true rfl)
  rw [lg_entry_eq]
  generalize (lg_sl ([.ref h0, .ref ho]) ++ List.replicate (3 - (lg_sl ([.ref h0, .ref ho])).length) Slot.unset).toArray = ls at hl ⊢
  have hl : lv_has ls 3 [(0, .ref h0), (1, .ref ho)] := hl
  refine lv_aload_n hx hb d_L_freeBlocks_0 rfl (lv_at hl 1 rfl) ?_
  refine lv_iconst (v := 0) hx hb d_L_freeBlocks_1 (by decide) ?_
  refine lv_aload_n hx hb d_L_freeBlocks_2 rfl (lv_at hl 0 rfl) ?_
  have hPc : va_P (dC, dI) vwCl (kW h0 cB cD cR x ds) s.heap := (hP.perm List.perm_append_comm).left
  have hDc : va_D A (kW h0 cB cD cR x ds) := (hD.perm List.perm_append_comm).left
  have hKc : va_K (dC, dI) vwCl (kT cB cD cR) s := hK.sub [1, 2, 3] rfl
  have hFc : ∀ q : Nat, va_A (kW h0 cB cD cR x ds) s.heap.size q → A q := fr_free hD hS hA List.perm_append_comm
  have hS0 := hS
  refine vx_calli (vx_runV (As := []) (rest := [.int 0, .ref ho]) ⟨hx, hb, hml, hown, hw0⟩ (kMet.out (k_freeBlocks l hl9 dC dI s.heap.size h0 cB cD cR x ds σ hs hk)) (cwV 0 hw0 (gd_V 605 606 607 226 711 rfl rfl rfl rfl rfl) rfl rfl rfl (by decide +kernel) ⟨by decide +kernel, by decide +kernel⟩) (prV_T hPc hKc hDc hN hTw (fun _ _ => rfl) (va_recv hKc hPc (ci := 0) (q0 := 0) rfl rfl)) rfl rfl hl.1 rfl (lv_room (Nat.le_of_ble_eq_true rfl)) d_L_freeBlocks_3 ⟨by decide +kernel, by decide +kernel⟩) hS (fun q _ h => hFc q h) hFc (fun q _ h => hFc q h) (fun E ce q9 u t H1 locs ht hvm hw hB hz1 hk1 hS hce hcv hcl => ?_) (fun r u t H1 locs ht hvm hw hB hz1 hk1 hS => ?_)
  · obtain ⟨⟨hne, hE⟩, x2, ds2, hk2, hP1, hK1, hD1⟩ := hB
    rw [ht] at hP1
    obtain ⟨hP, hD⟩ := fr_wld (W2 := (([(ho, .inl (cO, 1, .inr (.inl (fo))))] : va_W) ++ kW h0 cB cD cR x2 ds2)) (A := A) (fun q hq => hA q (Nat.le_trans hS0.1 hq)) hP hD List.perm_append_comm hk1 hP1 hD1 (kz List.perm_append_comm)
    clear hPc hDc hKc hFc hP1 hD1 hK1 hk1 hS0
    have hcd : (sFree σ).2.1 = 1 := cd_freeBlocks.resolve_left hne
    have hE : E = "java/lang/IllegalStateException" := hE
    subst hE
    refine vx_catch (name := "java/lang/IllegalStateException") hown [] ⟨0, 8, 11, 13⟩ [] (htab.trans rfl) (fun z hz => by cases hz) (by decide) (by decide) (hw0 (.classLink "TextKeeperLaw" 13 "java/lang/IllegalStateException") (List.mem_of_getElem? (i := 431) rfl)) (va_Nw.use rfl (hN.1 (.castable "java/lang/IllegalStateException" "java/lang/IllegalStateException") (List.mem_of_getElem? (i := 11) rfl))) hce hcv hcl ?_
    refine W.eq (g2 := F0 m 11 ls [.ref q9]) rfl ?_
    generalize H1 = H at hP hS hce ⊢
    refine W.widen (k := 2) (n := 264) (by decide +kernel) (by decide +kernel) ?_
    refine lv_astore_n (lv' := [(2, .ref q9), (0, .ref h0), (1, .ref ho)]) hx hb d_L_freeBlocks_11 rfl hl (by decide) rfl (fun ls hl => ?_)
    refine lv_iconst (v := 1) hx hb d_L_freeBlocks_12 (by decide) ?_
    exact W.iret (v := 1) hx hb hr (fun t ht hW => ⟨⟨1, (), rfl, hcd.symm, fo, x2, ds2, ⟨hk2, fun h => absurd h hne⟩, by rw [ht]; exact hP, va_K.moved hW.alike hK, hD⟩, hS.F ht⟩) hS.2.2 d_L_freeBlocks_13
  · obtain ⟨hc0, hr0⟩ : (sFree σ).2.1 = 0 ∧ r = (sFree σ).2.2 := hw
    obtain ⟨x2, ds2, hk2, hP1, hK1, hD1⟩ := hB
    rw [ht] at hP1
    obtain ⟨hP, hD⟩ := fr_wld (W2 := (([(ho, .inl (cO, 1, .inr (.inl (fo))))] : va_W) ++ kW h0 cB cD cR x2 ds2)) (A := A) (fun q hq => hA q (Nat.le_trans hS0.1 hq)) hP hD List.perm_append_comm hk1 hP1 hD1 (kz List.perm_append_comm)
    clear hPc hDc hKc hFc hP1 hD1 hK1 hk1 hS0
    generalize H1 = H at hP hS ⊢
    refine W.widen (k := 2) (n := 264) (by decide +kernel) (by decide +kernel) ?_
    refine lv_i2l (v := r.toInt64) hx hb d_L_freeBlocks_6 rfl ?_
    refine va_last hx hb hK hP hD hS 0 0 rfl rfl (by unfold vp_in; decide +kernel) d_L_freeBlocks_7 (fun H locs hP hD hS => ?_)
    replace hP : va_P (dC, dI) vwCl (([(ho, .inl (cO, 1, .inr (.inl (vp_updL (fo) (Int32.toNatClampNeg 0) (r.toInt64)))))] : va_W) ++ kW h0 cB cD cR x2 ds2) H := hP
    replace hD : va_D A (([(ho, .inl (cO, 1, .inr (.inl (vp_updL (fo) (Int32.toNatClampNeg 0) (r.toInt64)))))] : va_W) ++ kW h0 cB cD cR x2 ds2) := hD
    refine lv_goto (tgt := 14) hx hb d_L_freeBlocks_8 (by decide) ?_
    refine lv_iconst (v := 0) hx hb d_L_freeBlocks_14 (by decide) ?_
    exact W.iret (v := 0) hx hb hr (fun t ht hW => ⟨⟨0, (), rfl, hc0.symm, (vp_updL (fo) (Int32.toNatClampNeg 0) (r.toInt64)), x2, ds2, ⟨hk2, fun _ => x_up0.trans (by rw [hr0])⟩, by rw [ht]; exact hP, va_K.moved hW.alike hK, hD⟩, hS.F ht⟩) hS.2.2 d_L_freeBlocks_15
set_option maxHeartbeats 4000000 in
set_option maxRecDepth 100000 in
theorem w_cutAfter (l : Launch) (hl9 : l.stackTraces = false) (dC : Nat → ClassId) (dI : Nat → Nat → Nat) (sz : Nat) (h0 ho : Nat) (cB cD cR cO : ClassId) (fo : Nat → Int64) (x : KX) (ds : Nat → Option Dc) (σ : Sg) (a1 : Int32) (hs : sOk σ) (hk : kOk σ x ds) : Met l y_L_cutAfter k_L_cutAfter ({ frames := 9, cells := 2, slots := 264, locals := 179 } : Room) (va_Pc [.ref h0, .int a1, .ref ho] (fun U => pc_E (dC, dI) (([(ho, .inl (cO, 1, .inr (.inl (fo))))] : va_W) ++ kW h0 cB cD cR x ds) [(cO, .long), (cB, .byte), (cD, .object R_D), (cR, .object R_V)] sz U ∧ tw_ok U)) (va_Qi (fun (r : Int32) (_ : Unit) => r = (sCut σ a1).2.1) (fun (_ : Unit) t => ∃ (fo2 : Nat → Int64) (x2 : KX) (ds2 : Nat → Option Dc), (kOk (sCut σ a1).1 x2 ds2 ∧ ((sCut σ a1).2.1 = 0 → fo2 0 = (if (sCut σ a1).2.2 = 0 then 0 else 1))) ∧ at_E (dC, dI) (va_A (([(ho, .inl (cO, 1, .inr (.inl (fo))))] : va_W) ++ kW h0 cB cD cR x ds) sz) (([(ho, .inl (cO, 1, .inr (.inl (fo2))))] : va_W) ++ kW h0 cB cD cR x2 ds2) [(cO, .long), (cB, .byte), (cD, .object R_D), (cR, .object R_V)] t) (va_A (([(ho, .inl (cO, 1, .inr (.inl (fo))))] : va_W) ++ kW h0 cB cD cR x ds) sz)) 2 264 (va_A (([(ho, .inl (cO, 1, .inr (.inl (fo))))] : va_W) ++ kW h0 cB cD cR x ds) sz) := by
  refine va_MetW (hh := [(0, 16, 19, 13)]) (cc := method_19_code) (maxL := 4) (ret := (some .int)) (by decide) rfl ?_
  intro p e s m args below meth c s₁ B hml hv
  obtain ⟨rfl, ⟨hsz, hP, hK, hD0, hN⟩, hTw⟩ := hv
  have hx := B.exec
  have hb := B.bytes
  have hr := B.returns
  have hts := atoms_spec (ws := k_L_cutAfter) B.pre
  have hw0 : ∀ w ∈ w0, w.before _ s = true := fun w h => hts w (List.mem_cons_of_mem _ h)
  have hown : s.vm.findClass R_L = some m.cls := findClass_of_methodNamed B.named
  have hlocks := B.notSynchronized
  have htab := vx_table (x := y_L_cutAfter) B (hts (.codeWith y_L_cutAfter method_19_code 4 (some .int) [(0, 16, 19, 13)]) List.mem_cons_self)
  subst hsz
  have hD := hD0.self (sz := s.heap.size)
  generalize hAe : va_A (([(ho, .inl (cO, 1, .inr (.inl (fo))))] : va_W) ++ kW h0 cB cD cR x ds) s.heap.size = A at hD ⊢
  have hA : ∀ q : Nat, s.heap.size ≤ q → A q := fun q h => by rw [← hAe]; exact Or.inr h
  clear hAe hD0
  have hS : va_S A s.heap s.heap [] := va_S.rf
  have hl := lv_entry ([.ref h0, .int a1, .ref ho]) (n := 4) (Nat.le_of_ble_eq_true rfl)
  rw [lg_entry_eq]
  generalize (lg_sl ([.ref h0, .int a1, .ref ho]) ++ List.replicate (4 - (lg_sl ([.ref h0, .int a1, .ref ho])).length) Slot.unset).toArray = ls at hl ⊢
  have hl : lv_has ls 4 [(0, .ref h0), (1, .int a1), (2, .ref ho)] := hl
  refine lv_aload_n hx hb d_L_cutAfter_0 rfl (lv_at hl 2 rfl) ?_
  refine lv_iconst (v := 0) hx hb d_L_cutAfter_1 (by decide) ?_
  refine lv_aload_n hx hb d_L_cutAfter_2 rfl (lv_at hl 0 rfl) ?_
  refine lv_iload_n hx hb d_L_cutAfter_3 rfl (lv_at hl 1 rfl) ?_
  have hPc : va_P (dC, dI) vwCl (kW h0 cB cD cR x ds) s.heap := (hP.perm List.perm_append_comm).left
  have hDc : va_D A (kW h0 cB cD cR x ds) := (hD.perm List.perm_append_comm).left
  have hKc : va_K (dC, dI) vwCl (kT cB cD cR) s := hK.sub [1, 2, 3] rfl
  have hFc : ∀ q : Nat, va_A (kW h0 cB cD cR x ds) s.heap.size q → A q := fr_free hD hS hA List.perm_append_comm
  have hS0 := hS
  refine vx_calli (vx_runV (As := [.int a1]) (rest := [.int 0, .ref ho]) ⟨hx, hb, hml, hown, hw0⟩ (kMet.out (k_cutAfter l hl9 dC dI s.heap.size h0 cB cD cR x ds σ a1 hs hk)) (cwV 1 hw0 (gd_V 610 611 612 226 713 rfl rfl rfl rfl rfl) rfl rfl rfl (by decide +kernel) ⟨by decide +kernel, by decide +kernel⟩) (prV_T hPc hKc hDc hN hTw (fun _ _ => rfl) (va_recv hKc hPc (ci := 0) (q0 := 0) rfl rfl)) rfl rfl hl.1 rfl (lv_room (Nat.le_of_ble_eq_true rfl)) d_L_cutAfter_4 ⟨by decide +kernel, by decide +kernel⟩) hS (fun q _ h => hFc q h) hFc (fun q _ h => hFc q h) (fun E ce q9 u t H1 locs ht hvm hw hB hz1 hk1 hS hce hcv hcl => ?_) (fun r u t H1 locs ht hvm hw hB hz1 hk1 hS => ?_)
  · obtain ⟨⟨hne, hE⟩, x2, ds2, hk2, hP1, hK1, hD1⟩ := hB
    rw [ht] at hP1
    obtain ⟨hP, hD⟩ := fr_wld (W2 := (([(ho, .inl (cO, 1, .inr (.inl (fo))))] : va_W) ++ kW h0 cB cD cR x2 ds2)) (A := A) (fun q hq => hA q (Nat.le_trans hS0.1 hq)) hP hD List.perm_append_comm hk1 hP1 hD1 (kz List.perm_append_comm)
    clear hPc hDc hKc hFc hP1 hD1 hK1 hk1 hS0
    have hcd : (sCut σ a1).2.1 = 1 := cd_cutAfter.resolve_left hne
    have hE : E = "java/lang/IllegalStateException" := hE
    subst hE
    refine vx_catch (name := "java/lang/IllegalStateException") hown [] ⟨0, 16, 19, 13⟩ [] (htab.trans rfl) (fun z hz => by cases hz) (by decide) (by decide) (hw0 (.classLink "TextKeeperLaw" 13 "java/lang/IllegalStateException") (List.mem_of_getElem? (i := 431) rfl)) (va_Nw.use rfl (hN.1 (.castable "java/lang/IllegalStateException" "java/lang/IllegalStateException") (List.mem_of_getElem? (i := 11) rfl))) hce hcv hcl ?_
    refine W.eq (g2 := F0 m 19 ls [.ref q9]) rfl ?_
    generalize H1 = H at hP hS hce ⊢
    refine W.widen (k := 2) (n := 264) (by decide +kernel) (by decide +kernel) ?_
    refine lv_astore_n (lv' := [(3, .ref q9), (0, .ref h0), (1, .int a1), (2, .ref ho)]) hx hb d_L_cutAfter_19 rfl hl (by decide) rfl (fun ls hl => ?_)
    refine lv_iconst (v := 1) hx hb d_L_cutAfter_20 (by decide) ?_
    exact W.iret (v := 1) hx hb hr (fun t ht hW => ⟨⟨1, (), rfl, hcd.symm, fo, x2, ds2, ⟨hk2, fun h => absurd h hne⟩, by rw [ht]; exact hP, va_K.moved hW.alike hK, hD⟩, hS.F ht⟩) hS.2.2 d_L_cutAfter_21
  · obtain ⟨hc0, hr0⟩ : (sCut σ a1).2.1 = 0 ∧ r = (sCut σ a1).2.2 := hw
    obtain ⟨x2, ds2, hk2, hP1, hK1, hD1⟩ := hB
    rw [ht] at hP1
    obtain ⟨hP, hD⟩ := fr_wld (W2 := (([(ho, .inl (cO, 1, .inr (.inl (fo))))] : va_W) ++ kW h0 cB cD cR x2 ds2)) (A := A) (fun q hq => hA q (Nat.le_trans hS0.1 hq)) hP hD List.perm_append_comm hk1 hP1 hD1 (kz List.perm_append_comm)
    clear hPc hDc hKc hFc hP1 hD1 hK1 hk1 hS0
    generalize H1 = H at hP hS ⊢
    refine W.widen (k := 2) (n := 264) (by decide +kernel) (by decide +kernel) ?_
    refine lv_if_eq (tgt := 14) hx hb d_L_cutAfter_7 (by decide) (fun c_1 => ?_) (fun c_1 => ?_)
    · refine lv_lconst (v := 0) hx hb d_L_cutAfter_14 (by decide) ?_
      refine va_last hx hb hK hP hD hS 0 0 rfl rfl (by unfold vp_in; decide +kernel) d_L_cutAfter_15 (fun H locs hP hD hS => ?_)
      replace hP : va_P (dC, dI) vwCl (([(ho, .inl (cO, 1, .inr (.inl (vp_updL (fo) (Int32.toNatClampNeg 0) (0)))))] : va_W) ++ kW h0 cB cD cR x2 ds2) H := hP
      replace hD : va_D A (([(ho, .inl (cO, 1, .inr (.inl (vp_updL (fo) (Int32.toNatClampNeg 0) (0)))))] : va_W) ++ kW h0 cB cD cR x2 ds2) := hD
      refine lv_goto (tgt := 22) hx hb d_L_cutAfter_16 (by decide) ?_
      refine lv_iconst (v := 0) hx hb d_L_cutAfter_22 (by decide) ?_
      exact W.iret (v := 0) hx hb hr (fun t ht hW => ⟨⟨0, (), rfl, hc0.symm, (vp_updL (fo) (Int32.toNatClampNeg 0) (0)), x2, ds2, ⟨hk2, fun _ => x_up0.trans (by rw [← hr0]; exact (if_pos c_1).symm)⟩, by rw [ht]; exact hP, va_K.moved hW.alike hK, hD⟩, hS.F ht⟩) hS.2.2 d_L_cutAfter_23
    · refine lv_lconst (v := 1) hx hb d_L_cutAfter_10 (by decide) ?_
      refine lv_goto (tgt := 15) hx hb d_L_cutAfter_11 (by decide) ?_
      refine va_last hx hb hK hP hD hS 0 0 rfl rfl (by unfold vp_in; decide +kernel) d_L_cutAfter_15 (fun H locs hP hD hS => ?_)
      replace hP : va_P (dC, dI) vwCl (([(ho, .inl (cO, 1, .inr (.inl (vp_updL (fo) (Int32.toNatClampNeg 0) (1)))))] : va_W) ++ kW h0 cB cD cR x2 ds2) H := hP
      replace hD : va_D A (([(ho, .inl (cO, 1, .inr (.inl (vp_updL (fo) (Int32.toNatClampNeg 0) (1)))))] : va_W) ++ kW h0 cB cD cR x2 ds2) := hD
      refine lv_goto (tgt := 22) hx hb d_L_cutAfter_16 (by decide) ?_
      refine lv_iconst (v := 0) hx hb d_L_cutAfter_22 (by decide) ?_
      exact W.iret (v := 0) hx hb hr (fun t ht hW => ⟨⟨0, (), rfl, hc0.symm, (vp_updL (fo) (Int32.toNatClampNeg 0) (1)), x2, ds2, ⟨hk2, fun _ => x_up0.trans (by rw [← hr0]; exact (if_neg c_1).symm)⟩, by rw [ht]; exact hP, va_K.moved hW.alike hK, hD⟩, hS.F ht⟩) hS.2.2 d_L_cutAfter_23
