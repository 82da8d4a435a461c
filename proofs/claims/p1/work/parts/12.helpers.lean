set_option maxHeartbeats 4000000 in
set_option maxRecDepth 100000 in
theorem w_feed (l : Launch) (dC : Nat → ClassId) (dI : Nat → Nat → Nat) (sz : Nat) (h0 : Nat) (v_documents : Value) (v_fetched : Value) (v_compared : Value) (v_maker : Value) (v_writer : Value) (i_madeDocuments : Int32) (i_fetchedSteps : Int32) (hp : Nat) (p_i_going : Int32) (p_i_writesLeft : Int32) (hb1 : Nat) (hy : Nat) (cB : ClassId) (f : Nat → Int32) (a1 : Int32) (a2 : Int32) (a3 : Int32) (a4 : Int32) (a5 : Int32) (ho : Nat) (cO : ClassId) (fo : Nat → Int64)  : Met l y_L_feed k_L_feed ({ frames := 3, cells := 0, slots := 0, locals := 68 } : Room) (va_Pc [.ref h0, .int a1, .int a2, .int a3, .int a4, .int a5, .ref ho] (pc_E (dC, dI) [(h0, .inr (0, [v_documents, .ref hb1, v_fetched, v_compared, v_maker, v_writer, .ref hp, .int i_madeDocuments, .int i_fetchedSteps])), (hp, .inr (4, [.int 0, .int p_i_going, .int p_i_writesLeft])), (hb1, .inr (1, [.ref hy, .int 0])), (hy, .inl (cB, 256, .inl (f))), (ho, .inl (cO, 1, .inr (.inl (fo))))] [(cB, .byte), (cO, .long)] sz)) (va_Qi (fun (r : Int32) (_ : Unit) => r = 0) (fun (_ : Unit) t => ∃ (g : Nat → Int64), (g 0 = 1) ∧ at_E (dC, dI) (va_A [(h0, .inr (0, [v_documents, .ref hb1, v_fetched, v_compared, v_maker, v_writer, .ref hp, .int i_madeDocuments, .int i_fetchedSteps])), (hp, .inr (4, [.int 0, .int p_i_going, .int p_i_writesLeft])), (hb1, .inr (1, [.ref hy, .int 0])), (hy, .inl (cB, 256, .inl (f))), (ho, .inl (cO, 1, .inr (.inl (fo))))] sz) [(ho, .inl (cO, 1, .inr (.inl (g))))] [(cO, .long)] t) (va_A [(h0, .inr (0, [v_documents, .ref hb1, v_fetched, v_compared, v_maker, v_writer, .ref hp, .int i_madeDocuments, .int i_fetchedSteps])), (hp, .inr (4, [.int 0, .int p_i_going, .int p_i_writesLeft])), (hb1, .inr (1, [.ref hy, .int 0])), (hy, .inl (cB, 256, .inl (f))), (ho, .inl (cO, 1, .inr (.inl (fo))))] sz)) 0 0 (va_A [(h0, .inr (0, [v_documents, .ref hb1, v_fetched, v_compared, v_maker, v_writer, .ref hp, .int i_madeDocuments, .int i_fetchedSteps])), (hp, .inr (4, [.int 0, .int p_i_going, .int p_i_writesLeft])), (hb1, .inr (1, [.ref hy, .int 0])), (hy, .inl (cB, 256, .inl (f))), (ho, .inl (cO, 1, .inr (.inl (fo))))] sz) := by
  refine va_MetW (hh := [(0, 23, 26, 13)]) (cc := method_3_code) (maxL := 8) (ret := (some .int)) (by decide) rfl ?_
  intro p e s m args below meth c s₁ B hml hv
  obtain ⟨rfl, hsz, hP, hK, hD0, hN⟩ := hv
  have hx := B.exec
  have hb := B.bytes
  have hr := B.returns
  have hts := atoms_spec (ws := k_L_feed) B.pre
  have hw0 : ∀ w ∈ w0, w.before _ s = true := fun w h => hts w (List.mem_cons_of_mem _ h)
  have hown : s.vm.findClass R_L = some m.cls := findClass_of_methodNamed B.named
  have hlocks := B.notSynchronized
  subst hsz
  have hD := hD0.self (sz := s.heap.size)
  generalize hAe : va_A [(h0, .inr (0, [v_documents, .ref hb1, v_fetched, v_compared, v_maker, v_writer, .ref hp, .int i_madeDocuments, .int i_fetchedSteps])), (hp, .inr (4, [.int 0, .int p_i_going, .int p_i_writesLeft])), (hb1, .inr (1, [.ref hy, .int 0])), (hy, .inl (cB, 256, .inl (f))), (ho, .inl (cO, 1, .inr (.inl (fo))))] s.heap.size = A at hD ⊢
  have hA : ∀ q : Nat, s.heap.size ≤ q → A q := fun q h => by rw [← hAe]; exact Or.inr h
  have hS : va_S A s.heap s.heap [] := va_S.rf
  have hP : va_P (dC, dI) vwCl [(h0, .inr (0, [v_documents, .ref hb1, v_fetched, v_compared, v_maker, v_writer, .ref hp, .int i_madeDocuments, .int i_fetchedSteps])), (hp, .inr (4, [.int 0, .int p_i_going, .int p_i_writesLeft])), (hb1, .inr (1, [.ref hy, .int 0])), (hy, .inl (cB, 256, .inl (f))), (ho, .inl (cO, 1, .inr (.inl (fo))))] s.heap := hP
  have hl := lv_entry ([.ref h0, .int a1, .int a2, .int a3, .int a4, .int a5, .ref ho]) (n := 8) (Nat.le_of_ble_eq_true rfl)
  rw [lg_entry_eq]
  generalize (lg_sl ([.ref h0, .int a1, .int a2, .int a3, .int a4, .int a5, .ref ho]) ++ List.replicate (8 - (lg_sl ([.ref h0, .int a1, .int a2, .int a3, .int a4, .int a5, .ref ho])).length) Slot.unset).toArray = ls at hl ⊢
  have hl : lv_has ls 8 [(0, .ref h0), (1, .int a1), (2, .int a2), (3, .int a3), (4, .int a4), (5, .int a5), (6, .ref ho)] := hl
  refine lv_aload hx hb d_L_feed_0 (lv_at hl 6 rfl) ?_
  refine lv_iconst (v := 0) hx hb d_L_feed_2 (by decide) ?_
  refine lv_aload_n hx hb d_L_feed_3 rfl (lv_at hl 0 rfl) ?_
  refine lv_iload_n hx hb d_L_feed_4 rfl (lv_at hl 1 rfl) ?_
  refine lv_iload_n hx hb d_L_feed_5 rfl (lv_at hl 2 rfl) ?_
  refine lv_iload_n hx hb d_L_feed_6 rfl (lv_at hl 3 rfl) ?_
  refine lv_iload hx hb d_L_feed_7 (lv_at hl 4 rfl) ?_
  refine lv_iload hx hb d_L_feed_9 (lv_at hl 5 rfl) ?_
  have hPc := hP.sub (ws' := [(h0, .inr (0, [v_documents, .ref hb1, v_fetched, v_compared, v_maker, v_writer, .ref hp, .int i_madeDocuments, .int i_fetchedSteps])), (hp, .inr (4, [.int 0, .int p_i_going, .int p_i_writesLeft])), (hb1, .inr (1, [.ref hy, .int 0])), (hy, .inl (cB, 256, .inl ((f))))]) [0, 1, 2, 3] rfl
  have hKc := hK.sub (tys' := [(cB, .byte)]) [0] rfl
  have hDc := hD.sub (ws' := [(h0, .inr (0, [v_documents, .ref hb1, v_fetched, v_compared, v_maker, v_writer, .ref hp, .int i_madeDocuments, .int i_fetchedSteps])), (hp, .inr (4, [.int 0, .int p_i_going, .int p_i_writesLeft])), (hb1, .inr (1, [.ref hy, .int 0])), (hy, .inl (cB, 256, .inl ((f))))]) [0, 1, 2, 3] (by decide) rfl
  have hFc := va_free (wc := [(h0, .inr (0, [v_documents, .ref hb1, v_fetched, v_compared, v_maker, v_writer, .ref hp, .int i_madeDocuments, .int i_fetchedSteps])), (hp, .inr (4, [.int 0, .int p_i_going, .int p_i_writesLeft])), (hb1, .inr (1, [.ref hy, .int 0])), (hy, .inl (cB, 256, .inl ((f))))]) hD hS hA [0, 1, 2, 3] rfl
  refine va_calli (va_runV (As := [.int a1, .int a2, .int a3, .int a4, .int a5]) (rest := [.int 0, .ref ho]) ⟨hx, hb, hml, hown, hw0⟩ (c_feed l dC dI s.heap.size h0 v_documents v_fetched v_compared v_maker v_writer i_madeDocuments i_fetchedSteps hp p_i_going p_i_writesLeft hb1 hy cB (f) a1 a2 a3 a4 a5) (cwV 5 hw0 (gd_V 272 273 274 111 275 rfl rfl rfl rfl rfl) rfl rfl rfl (by decide +kernel) ⟨by decide +kernel, by decide +kernel⟩) (prV_E hPc hKc hDc hN (va_recv hKc hPc (ci := 0) (q0 := 0) rfl rfl)) rfl rfl hl.1 rfl (lv_room (Nat.le_of_ble_eq_true rfl)) d_L_feed_11 ⟨by decide +kernel, by decide +kernel⟩) hS (fun q _ h => hFc q h) hFc (fun r_1 u t H1 locs ht hvm hw hB hz1 hk1 hS => ?_)
  obtain ⟨hP1, hK1, hD1⟩ := hB
  rw [ht] at hP1
  have hK1 := va_K.moved hvm.symm hK1
  try dsimp only at hw
  obtain ⟨hP, hD⟩ := va_join (wr := [(ho, .inl (cO, 1, .inr (.inl (fo))))]) (w1 := []) hP hD [0, 1, 2, 3] [4] rfl rfl (by decide) (by decide) hk1 hFc hP1 hD1
  generalize H1 = H at hP hS ⊢
  replace hP : va_P (dC, dI) vwCl [(ho, .inl (cO, 1, .inr (.inl (fo))))] H := hP
  replace hD : va_D A [(ho, .inl (cO, 1, .inr (.inl (fo))))] := hD
  replace hK : va_K (dC, dI) vwCl [(cB, .byte), (cO, .long)] s := hK
  obtain rfl : r_1 = 1 := hw
  refine lv_if_eq (tgt := 21) hx hb d_L_feed_14 (by decide) (fun h9 => absurd h9 (by decide +kernel)) (fun _ => ?_)
  refine lv_lconst (v := 1) hx hb d_L_feed_17 (by decide) ?_
  refine lv_goto (tgt := 22) hx hb d_L_feed_18 (by decide) ?_
  refine va_last hx hb hK hP hD hS 0 1 rfl rfl (by unfold vp_in; decide +kernel) d_L_feed_22 (fun H locs hP hD hS => ?_)
  replace hP : va_P (dC, dI) vwCl [(ho, .inl (cO, 1, .inr (.inl (vp_updL (fo) (Int32.toNatClampNeg 0) (1)))))] H := hP
  replace hD : va_D A [(ho, .inl (cO, 1, .inr (.inl (vp_updL (fo) (Int32.toNatClampNeg 0) (1)))))] := hD
  refine lv_goto (tgt := 30) hx hb d_L_feed_23 (by decide) ?_
  refine lv_iconst (v := 0) hx hb d_L_feed_30 (by decide) ?_
  have hP9 := hP.sub (ws' := [(ho, .inl (cO, 1, .inr (.inl ((vp_updL (fo) (Int32.toNatClampNeg 0) (1))))))]) [0] rfl
  have hD9 := hD.sub (ws' := [(ho, .inl (cO, 1, .inr (.inl ((vp_updL (fo) (Int32.toNatClampNeg 0) (1))))))]) [0] (by decide) rfl
  have hK9 := hK.sub (tys' := [(cO, .long)]) [1] rfl
  exact W.iret (v := 0) hx hb hr (fun t ht hW => ⟨⟨0, (), rfl, rfl, (vp_updL (fo) (Int32.toNatClampNeg 0) (1)), x_up0, by rw [ht]; exact hP9, va_K.moved hW.alike hK9, hD9⟩, hS.F ht⟩) hS.2.2 d_L_feed_31
set_option maxHeartbeats 4000000 in
set_option maxRecDepth 100000 in
theorem w_end_T (l : Launch) (dC : Nat → ClassId) (dI : Nat → Nat → Nat) (sz : Nat) (h0 : Nat) (v_documents : Value) (v_fetched : Value) (v_compared : Value) (v_maker : Value) (v_writer : Value) (i_madeDocuments : Int32) (i_fetchedSteps : Int32) (hp : Nat) (p_i_going : Int32) (p_i_writesLeft : Int32) (hb1 : Nat) (hy : Value) (a1 : Int32) (ho : Nat) (cO : ClassId) (fo : Nat → Int64) (h1 : ¬ a1 < 0) (h2 : ¬ 0 < a1) : Met l y_L_end k_L_end ({ frames := 2, cells := 0, slots := 0, locals := 42 } : Room) (va_Pc [.ref h0, .int a1, .ref ho] (pc_E (dC, dI) [(h0, .inr (0, [v_documents, .ref hb1, v_fetched, v_compared, v_maker, v_writer, .ref hp, .int i_madeDocuments, .int i_fetchedSteps])), (hp, .inr (4, [.int 0, .int p_i_going, .int p_i_writesLeft])), (hb1, .inr (1, [hy, .int 0])), (ho, .inl (cO, 1, .inr (.inl (fo))))] [(cO, .long)] sz)) (va_Qi (fun (r : Int32) (_ : Unit) => r = 0) (fun (_ : Unit) t => ∃ (g : Nat → Int64), (g 0 = 1) ∧ at_E (dC, dI) (va_A [(h0, .inr (0, [v_documents, .ref hb1, v_fetched, v_compared, v_maker, v_writer, .ref hp, .int i_madeDocuments, .int i_fetchedSteps])), (hp, .inr (4, [.int 0, .int p_i_going, .int p_i_writesLeft])), (hb1, .inr (1, [hy, .int 0])), (ho, .inl (cO, 1, .inr (.inl (fo))))] sz) [(ho, .inl (cO, 1, .inr (.inl (g))))] [(cO, .long)] t) (va_A [(h0, .inr (0, [v_documents, .ref hb1, v_fetched, v_compared, v_maker, v_writer, .ref hp, .int i_madeDocuments, .int i_fetchedSteps])), (hp, .inr (4, [.int 0, .int p_i_going, .int p_i_writesLeft])), (hb1, .inr (1, [hy, .int 0])), (ho, .inl (cO, 1, .inr (.inl (fo))))] sz)) 0 0 (va_A [(h0, .inr (0, [v_documents, .ref hb1, v_fetched, v_compared, v_maker, v_writer, .ref hp, .int i_madeDocuments, .int i_fetchedSteps])), (hp, .inr (4, [.int 0, .int p_i_going, .int p_i_writesLeft])), (hb1, .inr (1, [hy, .int 0])), (ho, .inl (cO, 1, .inr (.inl (fo))))] sz) := by
  refine va_MetW (hh := [(0, 16, 19, 13)]) (cc := method_4_code) (maxL := 4) (ret := (some .int)) (by decide) rfl ?_
  intro p e s m args below meth c s₁ B hml hv
  obtain ⟨rfl, hsz, hP, hK, hD0, hN⟩ := hv
  have hx := B.exec
  have hb := B.bytes
  have hr := B.returns
  have hts := atoms_spec (ws := k_L_end) B.pre
  have hw0 : ∀ w ∈ w0, w.before _ s = true := fun w h => hts w (List.mem_cons_of_mem _ h)
  have hown : s.vm.findClass R_L = some m.cls := findClass_of_methodNamed B.named
  have hlocks := B.notSynchronized
  subst hsz
  have hD := hD0.self (sz := s.heap.size)
  generalize hAe : va_A [(h0, .inr (0, [v_documents, .ref hb1, v_fetched, v_compared, v_maker, v_writer, .ref hp, .int i_madeDocuments, .int i_fetchedSteps])), (hp, .inr (4, [.int 0, .int p_i_going, .int p_i_writesLeft])), (hb1, .inr (1, [hy, .int 0])), (ho, .inl (cO, 1, .inr (.inl (fo))))] s.heap.size = A at hD ⊢
  have hA : ∀ q : Nat, s.heap.size ≤ q → A q := fun q h => by rw [← hAe]; exact Or.inr h
  have hS : va_S A s.heap s.heap [] := va_S.rf
  have hP : va_P (dC, dI) vwCl [(h0, .inr (0, [v_documents, .ref hb1, v_fetched, v_compared, v_maker, v_writer, .ref hp, .int i_madeDocuments, .int i_fetchedSteps])), (hp, .inr (4, [.int 0, .int p_i_going, .int p_i_writesLeft])), (hb1, .inr (1, [hy, .int 0])), (ho, .inl (cO, 1, .inr (.inl (fo))))] s.heap := hP
  have hl := lv_entry ([.ref h0, .int a1, .ref ho]) (n := 4) (Nat.le_of_ble_eq_true rfl)
  rw [lg_entry_eq]
  generalize (lg_sl ([.ref h0, .int a1, .ref ho]) ++ List.replicate (4 - (lg_sl ([.ref h0, .int a1, .ref ho])).length) Slot.unset).toArray = ls at hl ⊢
  have hl : lv_has ls 4 [(0, .ref h0), (1, .int a1), (2, .ref ho)] := hl
  refine lv_aload_n hx hb d_L_end_0 rfl (lv_at hl 2 rfl) ?_
  refine lv_iconst (v := 0) hx hb d_L_end_1 (by decide) ?_
  refine lv_aload_n hx hb d_L_end_2 rfl (lv_at hl 0 rfl) ?_
  refine lv_iload_n hx hb d_L_end_3 rfl (lv_at hl 1 rfl) ?_
  have hPc := hP.sub (ws' := [(h0, .inr (0, [v_documents, .ref hb1, v_fetched, v_compared, v_maker, v_writer, .ref hp, .int i_madeDocuments, .int i_fetchedSteps])), (hp, .inr (4, [.int 0, .int p_i_going, .int p_i_writesLeft])), (hb1, .inr (1, [hy, .int 0]))]) [0, 1, 2] rfl
  have hKc := hK.sub (tys' := []) [] rfl
  have hDc := hD.sub (ws' := [(h0, .inr (0, [v_documents, .ref hb1, v_fetched, v_compared, v_maker, v_writer, .ref hp, .int i_madeDocuments, .int i_fetchedSteps])), (hp, .inr (4, [.int 0, .int p_i_going, .int p_i_writesLeft])), (hb1, .inr (1, [hy, .int 0]))]) [0, 1, 2] (by decide) rfl
  have hFc := va_free (wc := [(h0, .inr (0, [v_documents, .ref hb1, v_fetched, v_compared, v_maker, v_writer, .ref hp, .int i_madeDocuments, .int i_fetchedSteps])), (hp, .inr (4, [.int 0, .int p_i_going, .int p_i_writesLeft])), (hb1, .inr (1, [hy, .int 0]))]) hD hS hA [0, 1, 2] rfl
  refine va_calli (va_runV (As := [.int a1]) (rest := [.int 0, .ref ho]) ⟨hx, hb, hml, hown, hw0⟩ (c_end_T l dC dI s.heap.size h0 v_documents v_fetched v_compared v_maker v_writer i_madeDocuments i_fetchedSteps hp p_i_going p_i_writesLeft hb1 hy a1 (by first | assumption | decide | omega) (by first | assumption | decide | omega)) (cwV 1 hw0 (gd_V 276 277 278 111 279 rfl rfl rfl rfl rfl) rfl rfl rfl (by decide +kernel) ⟨by decide +kernel, by decide +kernel⟩) (prV_E hPc hKc hDc hN (va_recv hKc hPc (ci := 0) (q0 := 0) rfl rfl)) rfl rfl hl.1 rfl (lv_room (Nat.le_of_ble_eq_true rfl)) d_L_end_4 ⟨by decide +kernel, by decide +kernel⟩) hS (fun q _ h => hFc q h) hFc (fun r_1 u t H1 locs ht hvm hw hB hz1 hk1 hS => ?_)
  obtain ⟨hP1, hK1, hD1⟩ := hB
  rw [ht] at hP1
  have hK1 := va_K.moved hvm.symm hK1
  try dsimp only at hw
  obtain ⟨hP, hD⟩ := va_join (wr := [(ho, .inl (cO, 1, .inr (.inl (fo))))]) (w1 := []) hP hD [0, 1, 2] [3] rfl rfl (by decide) (by decide) hk1 hFc hP1 hD1
  generalize H1 = H at hP hS ⊢
  replace hP : va_P (dC, dI) vwCl [(ho, .inl (cO, 1, .inr (.inl (fo))))] H := hP
  replace hD : va_D A [(ho, .inl (cO, 1, .inr (.inl (fo))))] := hD
  replace hK : va_K (dC, dI) vwCl [(cO, .long)] s := hK
  obtain rfl : r_1 = 1 := hw
  refine lv_if_eq (tgt := 14) hx hb d_L_end_7 (by decide) (fun h9 => absurd h9 (by decide +kernel)) (fun _ => ?_)
  refine lv_lconst (v := 1) hx hb d_L_end_10 (by decide) ?_
  refine lv_goto (tgt := 15) hx hb d_L_end_11 (by decide) ?_
  refine va_last hx hb hK hP hD hS 0 0 rfl rfl (by unfold vp_in; decide +kernel) d_L_end_15 (fun H locs hP hD hS => ?_)
  replace hP : va_P (dC, dI) vwCl [(ho, .inl (cO, 1, .inr (.inl (vp_updL (fo) (Int32.toNatClampNeg 0) (1)))))] H := hP
  replace hD : va_D A [(ho, .inl (cO, 1, .inr (.inl (vp_updL (fo) (Int32.toNatClampNeg 0) (1)))))] := hD
  refine lv_goto (tgt := 22) hx hb d_L_end_16 (by decide) ?_
  refine lv_iconst (v := 0) hx hb d_L_end_22 (by decide) ?_
  have hP9 := hP.sub (ws' := [(ho, .inl (cO, 1, .inr (.inl ((vp_updL (fo) (Int32.toNatClampNeg 0) (1))))))]) [0] rfl
  have hD9 := hD.sub (ws' := [(ho, .inl (cO, 1, .inr (.inl ((vp_updL (fo) (Int32.toNatClampNeg 0) (1))))))]) [0] (by decide) rfl
  have hK9 := hK.sub (tys' := [(cO, .long)]) [0] rfl
  exact W.iret (v := 0) hx hb hr (fun t ht hW => ⟨⟨0, (), rfl, rfl, (vp_updL (fo) (Int32.toNatClampNeg 0) (1)), x_up0, by rw [ht]; exact hP9, va_K.moved hW.alike hK9, hD9⟩, hS.F ht⟩) hS.2.2 d_L_end_23
set_option maxHeartbeats 4000000 in
set_option maxRecDepth 100000 in
theorem w_end_F (l : Launch) (dC : Nat → ClassId) (dI : Nat → Nat → Nat) (sz : Nat) (h0 : Nat) (v_documents : Value) (v_fetched : Value) (v_compared : Value) (v_maker : Value) (v_writer : Value) (i_madeDocuments : Int32) (i_fetchedSteps : Int32) (hp : Nat) (p_i_going : Int32) (p_i_writesLeft : Int32) (hb1 : Nat) (hy : Value) (a1 : Int32) (ho : Nat) (cO : ClassId) (fo : Nat → Int64) (h1 : a1 < 0 ∨ 0 < a1) : Met l y_L_end k_L_end ({ frames := 2, cells := 0, slots := 0, locals := 42 } : Room) (va_Pc [.ref h0, .int a1, .ref ho] (pc_E (dC, dI) [(h0, .inr (0, [v_documents, .ref hb1, v_fetched, v_compared, v_maker, v_writer, .ref hp, .int i_madeDocuments, .int i_fetchedSteps])), (hp, .inr (4, [.int 0, .int p_i_going, .int p_i_writesLeft])), (hb1, .inr (1, [hy, .int 0])), (ho, .inl (cO, 1, .inr (.inl (fo))))] [(cO, .long)] sz)) (va_Qi (fun (r : Int32) (_ : Unit) => r = 0) (fun (_ : Unit) t => ∃ (g : Nat → Int64), (g 0 = 0) ∧ at_E (dC, dI) (va_A [(h0, .inr (0, [v_documents, .ref hb1, v_fetched, v_compared, v_maker, v_writer, .ref hp, .int i_madeDocuments, .int i_fetchedSteps])), (hp, .inr (4, [.int 0, .int p_i_going, .int p_i_writesLeft])), (hb1, .inr (1, [hy, .int 0])), (ho, .inl (cO, 1, .inr (.inl (fo))))] sz) [(ho, .inl (cO, 1, .inr (.inl (g))))] [(cO, .long)] t) (va_A [(h0, .inr (0, [v_documents, .ref hb1, v_fetched, v_compared, v_maker, v_writer, .ref hp, .int i_madeDocuments, .int i_fetchedSteps])), (hp, .inr (4, [.int 0, .int p_i_going, .int p_i_writesLeft])), (hb1, .inr (1, [hy, .int 0])), (ho, .inl (cO, 1, .inr (.inl (fo))))] sz)) 0 0 (va_A [(h0, .inr (0, [v_documents, .ref hb1, v_fetched, v_compared, v_maker, v_writer, .ref hp, .int i_madeDocuments, .int i_fetchedSteps])), (hp, .inr (4, [.int 0, .int p_i_going, .int p_i_writesLeft])), (hb1, .inr (1, [hy, .int 0])), (ho, .inl (cO, 1, .inr (.inl (fo))))] sz) := by
  refine va_MetW (hh := [(0, 16, 19, 13)]) (cc := method_4_code) (maxL := 4) (ret := (some .int)) (by decide) rfl ?_
  intro p e s m args below meth c s₁ B hml hv
  obtain ⟨rfl, hsz, hP, hK, hD0, hN⟩ := hv
  have hx := B.exec
  have hb := B.bytes
  have hr := B.returns
  have hts := atoms_spec (ws := k_L_end) B.pre
  have hw0 : ∀ w ∈ w0, w.before _ s = true := fun w h => hts w (List.mem_cons_of_mem _ h)
  have hown : s.vm.findClass R_L = some m.cls := findClass_of_methodNamed B.named
  have hlocks := B.notSynchronized
  subst hsz
  have hD := hD0.self (sz := s.heap.size)
  generalize hAe : va_A [(h0, .inr (0, [v_documents, .ref hb1, v_fetched, v_compared, v_maker, v_writer, .ref hp, .int i_madeDocuments, .int i_fetchedSteps])), (hp, .inr (4, [.int 0, .int p_i_going, .int p_i_writesLeft])), (hb1, .inr (1, [hy, .int 0])), (ho, .inl (cO, 1, .inr (.inl (fo))))] s.heap.size = A at hD ⊢
  have hA : ∀ q : Nat, s.heap.size ≤ q → A q := fun q h => by rw [← hAe]; exact Or.inr h
  have hS : va_S A s.heap s.heap [] := va_S.rf
  have hP : va_P (dC, dI) vwCl [(h0, .inr (0, [v_documents, .ref hb1, v_fetched, v_compared, v_maker, v_writer, .ref hp, .int i_madeDocuments, .int i_fetchedSteps])), (hp, .inr (4, [.int 0, .int p_i_going, .int p_i_writesLeft])), (hb1, .inr (1, [hy, .int 0])), (ho, .inl (cO, 1, .inr (.inl (fo))))] s.heap := hP
  have hl := lv_entry ([.ref h0, .int a1, .ref ho]) (n := 4) (Nat.le_of_ble_eq_true rfl)
  rw [lg_entry_eq]
  generalize (lg_sl ([.ref h0, .int a1, .ref ho]) ++ List.replicate (4 - (lg_sl ([.ref h0, .int a1, .ref ho])).length) Slot.unset).toArray = ls at hl ⊢
  have hl : lv_has ls 4 [(0, .ref h0), (1, .int a1), (2, .ref ho)] := hl
  refine lv_aload_n hx hb d_L_end_0 rfl (lv_at hl 2 rfl) ?_
  refine lv_iconst (v := 0) hx hb d_L_end_1 (by decide) ?_
  refine lv_aload_n hx hb d_L_end_2 rfl (lv_at hl 0 rfl) ?_
  refine lv_iload_n hx hb d_L_end_3 rfl (lv_at hl 1 rfl) ?_
  have hPc := hP.sub (ws' := [(h0, .inr (0, [v_documents, .ref hb1, v_fetched, v_compared, v_maker, v_writer, .ref hp, .int i_madeDocuments, .int i_fetchedSteps])), (hp, .inr (4, [.int 0, .int p_i_going, .int p_i_writesLeft])), (hb1, .inr (1, [hy, .int 0]))]) [0, 1, 2] rfl
  have hKc := hK.sub (tys' := []) [] rfl
  refine ps_i (va_runV (As := [.int a1]) (rest := [.int 0, .ref ho]) ⟨hx, hb, hml, hown, hw0⟩ (c_end_F l dC dI h0 v_documents v_fetched v_compared v_maker v_writer i_madeDocuments i_fetchedSteps hp p_i_going p_i_writesLeft hb1 hy a1 (by first | assumption | decide | omega)) (cwV 1 hw0 (gd_V 276 277 278 111 279 rfl rfl rfl rfl rfl) rfl rfl rfl (by decide +kernel) ⟨by decide +kernel, by decide +kernel⟩) (prV_R hPc hKc hN (va_recv hKc hPc (ci := 0) (q0 := 0) rfl rfl)) rfl rfl hl.1 rfl (lv_room (Nat.le_of_ble_eq_true rfl)) d_L_end_4 ⟨by decide +kernel, by decide +kernel⟩) (fun r_1 hr_1 => ?_)
  obtain rfl : r_1 = 0 := hr_1
  refine lv_if_eq (tgt := 14) hx hb d_L_end_7 (by decide) (fun _ => ?_) (fun h9 => absurd h9 (by decide +kernel))
  refine lv_lconst (v := 0) hx hb d_L_end_14 (by decide) ?_
  refine va_last hx hb hK hP hD hS 3 0 rfl rfl (by unfold vp_in; decide +kernel) d_L_end_15 (fun H locs hP hD hS => ?_)
  replace hP : va_P (dC, dI) vwCl [(h0, .inr (0, [v_documents, .ref hb1, v_fetched, v_compared, v_maker, v_writer, .ref hp, .int i_madeDocuments, .int i_fetchedSteps])), (hp, .inr (4, [.int 0, .int p_i_going, .int p_i_writesLeft])), (hb1, .inr (1, [hy, .int 0])), (ho, .inl (cO, 1, .inr (.inl (vp_updL (fo) (Int32.toNatClampNeg 0) (0)))))] H := hP
  replace hD : va_D A [(h0, .inr (0, [v_documents, .ref hb1, v_fetched, v_compared, v_maker, v_writer, .ref hp, .int i_madeDocuments, .int i_fetchedSteps])), (hp, .inr (4, [.int 0, .int p_i_going, .int p_i_writesLeft])), (hb1, .inr (1, [hy, .int 0])), (ho, .inl (cO, 1, .inr (.inl (vp_updL (fo) (Int32.toNatClampNeg 0) (0)))))] := hD
  refine lv_goto (tgt := 22) hx hb d_L_end_16 (by decide) ?_
  refine lv_iconst (v := 0) hx hb d_L_end_22 (by decide) ?_
  have hP9 := hP.sub (ws' := [(ho, .inl (cO, 1, .inr (.inl ((vp_updL (fo) (Int32.toNatClampNeg 0) (0))))))]) [3] rfl
  have hD9 := hD.sub (ws' := [(ho, .inl (cO, 1, .inr (.inl ((vp_updL (fo) (Int32.toNatClampNeg 0) (0))))))]) [3] (by decide) rfl
  have hK9 := hK.sub (tys' := [(cO, .long)]) [0] rfl
  exact W.iret (v := 0) hx hb hr (fun t ht hW => ⟨⟨0, (), rfl, rfl, (vp_updL (fo) (Int32.toNatClampNeg 0) (0)), x_up0, by rw [ht]; exact hP9, va_K.moved hW.alike hK9, hD9⟩, hS.F ht⟩) hS.2.2 d_L_end_23
set_option maxHeartbeats 4000000 in
set_option maxRecDepth 100000 in
theorem w_make (l : Launch) (dC : Nat → ClassId) (dI : Nat → Nat → Nat) (sz : Nat) (h0 : Nat) (v_buffer : Value) (v_fetched : Value) (v_compared : Value) (v_maker : Value) (v_writer : Value) (i_fetchedSteps : Int32) (hp : Nat) (p_i_writesLeft : Int32) (hd : Nat) (cD : ClassId) (ho : Nat) (cO : ClassId) (fo : Nat → Int64)  : Met l y_L_make k_L_make ({ frames := 3, cells := 2, slots := 67, locals := 63 } : Room) (va_Pc [.ref h0, .ref ho] (pc_E (dC, dI) [(h0, .inr (0, [.ref hd, v_buffer, v_fetched, v_compared, v_maker, v_writer, .ref hp, .int 0, .int i_fetchedSteps])), (hp, .inr (4, [.int 0, .int 0, .int p_i_writesLeft])), (hd, .inl (cD, 8, .inr (.inr (.inr (.inr (fun _ => none)))))), (ho, .inl (cO, 1, .inr (.inl (fo))))] [(cD, .object R_D), (cO, .long)] sz)) (va_Qi (fun (r : Int32) (_ : Unit) => r = 0) (fun (_ : Unit) t => ∃ (g : Nat → Int64), (g 0 = 0) ∧ at_E (dC, dI) (va_A [(h0, .inr (0, [.ref hd, v_buffer, v_fetched, v_compared, v_maker, v_writer, .ref hp, .int 0, .int i_fetchedSteps])), (hp, .inr (4, [.int 0, .int 0, .int p_i_writesLeft])), (hd, .inl (cD, 8, .inr (.inr (.inr (.inr (fun _ => none)))))), (ho, .inl (cO, 1, .inr (.inl (fo))))] sz) [(ho, .inl (cO, 1, .inr (.inl (g))))] [(cO, .long)] t) (va_A [(h0, .inr (0, [.ref hd, v_buffer, v_fetched, v_compared, v_maker, v_writer, .ref hp, .int 0, .int i_fetchedSteps])), (hp, .inr (4, [.int 0, .int 0, .int p_i_writesLeft])), (hd, .inl (cD, 8, .inr (.inr (.inr (.inr (fun _ => none)))))), (ho, .inl (cO, 1, .inr (.inl (fo))))] sz)) 2 67 (va_A [(h0, .inr (0, [.ref hd, v_buffer, v_fetched, v_compared, v_maker, v_writer, .ref hp, .int 0, .int i_fetchedSteps])), (hp, .inr (4, [.int 0, .int 0, .int p_i_writesLeft])), (hd, .inl (cD, 8, .inr (.inr (.inr (.inr (fun _ => none)))))), (ho, .inl (cO, 1, .inr (.inl (fo))))] sz) := by
  refine va_MetW (hh := [(0, 8, 11, 13)]) (cc := method_5_code) (maxL := 3) (ret := (some .int)) (by decide) rfl ?_
  intro p e s m args below meth c s₁ B hml hv
  obtain ⟨rfl, hsz, hP, hK, hD0, hN⟩ := hv
  have hx := B.exec
  have hb := B.bytes
  have hr := B.returns
  have hts := atoms_spec (ws := k_L_make) B.pre
  have hw0 : ∀ w ∈ w0, w.before _ s = true := fun w h => hts w (List.mem_cons_of_mem _ h)
  have hown : s.vm.findClass R_L = some m.cls := findClass_of_methodNamed B.named
  have hlocks := B.notSynchronized
  subst hsz
  have hD := hD0.self (sz := s.heap.size)
  generalize hAe : va_A [(h0, .inr (0, [.ref hd, v_buffer, v_fetched, v_compared, v_maker, v_writer, .ref hp, .int 0, .int i_fetchedSteps])), (hp, .inr (4, [.int 0, .int 0, .int p_i_writesLeft])), (hd, .inl (cD, 8, .inr (.inr (.inr (.inr (fun _ => none)))))), (ho, .inl (cO, 1, .inr (.inl (fo))))] s.heap.size = A at hD ⊢
  have hA : ∀ q : Nat, s.heap.size ≤ q → A q := fun q h => by rw [← hAe]; exact Or.inr h
  have hS : va_S A s.heap s.heap [] := va_S.rf
  have hP : va_P (dC, dI) vwCl [(h0, .inr (0, [.ref hd, v_buffer, v_fetched, v_compared, v_maker, v_writer, .ref hp, .int 0, .int i_fetchedSteps])), (hp, .inr (4, [.int 0, .int 0, .int p_i_writesLeft])), (hd, .inl (cD, 8, .inr (.inr (.inr (.inr (fun _ => none)))))), (ho, .inl (cO, 1, .inr (.inl (fo))))] s.heap := hP
  have hl := lv_entry ([.ref h0, .ref ho]) (n := 3) (Nat.le_of_ble_eq_true rfl)
  rw [lg_entry_eq]
  generalize (lg_sl ([.ref h0, .ref ho]) ++ List.replicate (3 - (lg_sl ([.ref h0, .ref ho])).length) Slot.unset).toArray = ls at hl ⊢
  have hl : lv_has ls 3 [(0, .ref h0), (1, .ref ho)] := hl
  refine lv_aload_n hx hb d_L_make_0 rfl (lv_at hl 1 rfl) ?_
  refine lv_iconst (v := 0) hx hb d_L_make_1 (by decide) ?_
  refine lv_aload_n hx hb d_L_make_2 rfl (lv_at hl 0 rfl) ?_
  have hPc := hP.sub (ws' := [(h0, .inr (0, [.ref hd, v_buffer, v_fetched, v_compared, v_maker, v_writer, .ref hp, .int 0, .int i_fetchedSteps])), (hp, .inr (4, [.int 0, .int 0, .int p_i_writesLeft])), (hd, .inl (cD, 8, .inr (.inr (.inr (.inr (fun _ => none))))))]) [0, 1, 2] rfl
  have hKc := hK.sub (tys' := [(cD, .object R_D)]) [0] rfl
  have hDc := hD.sub (ws' := [(h0, .inr (0, [.ref hd, v_buffer, v_fetched, v_compared, v_maker, v_writer, .ref hp, .int 0, .int i_fetchedSteps])), (hp, .inr (4, [.int 0, .int 0, .int p_i_writesLeft])), (hd, .inl (cD, 8, .inr (.inr (.inr (.inr (fun _ => none))))))]) [0, 1, 2] (by decide) rfl
  have hFc := va_free (wc := [(h0, .inr (0, [.ref hd, v_buffer, v_fetched, v_compared, v_maker, v_writer, .ref hp, .int 0, .int i_fetchedSteps])), (hp, .inr (4, [.int 0, .int 0, .int p_i_writesLeft])), (hd, .inl (cD, 8, .inr (.inr (.inr (.inr (fun _ => none))))))]) hD hS hA [0, 1, 2] rfl
  refine va_calli (va_runV (As := []) (rest := [.int 0, .ref ho]) ⟨hx, hb, hml, hown, hw0⟩ (c_make l dC dI s.heap.size h0 v_buffer v_fetched v_compared v_maker v_writer i_fetchedSteps hp p_i_writesLeft hd cD) (cwV 0 hw0 (gd_V 280 281 282 111 283 rfl rfl rfl rfl rfl) rfl rfl rfl (by decide +kernel) ⟨by decide +kernel, by decide +kernel⟩) (prV_E hPc hKc hDc hN (va_recv hKc hPc (ci := 0) (q0 := 0) rfl rfl)) rfl rfl hl.1 rfl (lv_room (Nat.le_of_ble_eq_true rfl)) d_L_make_3 ⟨by decide +kernel, by decide +kernel⟩) hS (fun q _ h => hFc q h) hFc (fun r_1 u t H1 locs ht hvm hw hB hz1 hk1 hS => ?_)
  obtain ⟨hP1, hK1, hD1⟩ := hB
  rw [ht] at hP1
  have hK1 := va_K.moved hvm.symm hK1
  try dsimp only at hw
  obtain ⟨hP, hD⟩ := va_join (wr := [(ho, .inl (cO, 1, .inr (.inl (fo))))]) (w1 := []) hP hD [0, 1, 2] [3] rfl rfl (by decide) (by decide) hk1 hFc hP1 hD1
  generalize H1 = H at hP hS ⊢
  replace hP : va_P (dC, dI) vwCl [(ho, .inl (cO, 1, .inr (.inl (fo))))] H := hP
  replace hD : va_D A [(ho, .inl (cO, 1, .inr (.inl (fo))))] := hD
  replace hK : va_K (dC, dI) vwCl [(cD, .object R_D), (cO, .long)] s := hK
  refine W.widen (k := 2) (n := 67) (by decide +kernel) (by decide +kernel) ?_
  obtain rfl : r_1 = 0 := hw
  refine lv_i2l (v := 0) hx hb d_L_make_6 (by decide +kernel) ?_
  refine va_last hx hb hK hP hD hS 0 1 rfl rfl (by unfold vp_in; decide +kernel) d_L_make_7 (fun H locs hP hD hS => ?_)
  replace hP : va_P (dC, dI) vwCl [(ho, .inl (cO, 1, .inr (.inl (vp_updL (fo) (Int32.toNatClampNeg 0) (0)))))] H := hP
  replace hD : va_D A [(ho, .inl (cO, 1, .inr (.inl (vp_updL (fo) (Int32.toNatClampNeg 0) (0)))))] := hD
  refine lv_goto (tgt := 14) hx hb d_L_make_8 (by decide) ?_
  refine lv_iconst (v := 0) hx hb d_L_make_14 (by decide) ?_
  have hP9 := hP.sub (ws' := [(ho, .inl (cO, 1, .inr (.inl ((vp_updL (fo) (Int32.toNatClampNeg 0) (0))))))]) [0] rfl
  have hD9 := hD.sub (ws' := [(ho, .inl (cO, 1, .inr (.inl ((vp_updL (fo) (Int32.toNatClampNeg 0) (0))))))]) [0] (by decide) rfl
  have hK9 := hK.sub (tys' := [(cO, .long)]) [1] rfl
  exact W.iret (v := 0) hx hb hr (fun t ht hW => ⟨⟨0, (), rfl, rfl, (vp_updL (fo) (Int32.toNatClampNeg 0) (0)), x_up0, by rw [ht]; exact hP9, va_K.moved hW.alike hK9, hD9⟩, hS.F ht⟩) hS.2.2 d_L_make_15
set_option maxHeartbeats 4000000 in
set_option maxRecDepth 100000 in
theorem w_commit (l : Launch) (dC : Nat → ClassId) (dI : Nat → Nat → Nat) (sz : Nat) (h0 : Nat) (v_buffer : Value) (v_fetched : Value) (v_compared : Value) (v_maker : Value) (v_writer : Value) (i_madeDocuments : Int32) (i_fetchedSteps : Int32) (hp : Nat) (p_i_going : Int32) (p_i_writesLeft : Int32) (hd : Nat) (cD : ClassId) (a1 : Int32) (a2 : Int32) (ho : Nat) (cO : ClassId) (fo : Nat → Int64)  : Met l y_L_commit k_L_commit ({ frames := 2, cells := 0, slots := 0, locals := 47 } : Room) (va_Pc [.ref h0, .int a1, .int a2, .ref ho] (pc_E (dC, dI) [(h0, .inr (0, [.ref hd, v_buffer, v_fetched, v_compared, v_maker, v_writer, .ref hp, .int i_madeDocuments, .int i_fetchedSteps])), (hp, .inr (4, [.int 0, .int p_i_going, .int p_i_writesLeft])), (hd, .inl (cD, 8, .inr (.inr (.inr (.inr (fun _ => none)))))), (ho, .inl (cO, 1, .inr (.inl (fo))))] [(cD, .object R_D), (cO, .long)] sz)) (va_Qi (fun (r : Int32) (_ : Unit) => r = 0) (fun (_ : Unit) t => ∃ (g : Nat → Int64), (g 0 = (-1)) ∧ at_E (dC, dI) (va_A [(h0, .inr (0, [.ref hd, v_buffer, v_fetched, v_compared, v_maker, v_writer, .ref hp, .int i_madeDocuments, .int i_fetchedSteps])), (hp, .inr (4, [.int 0, .int p_i_going, .int p_i_writesLeft])), (hd, .inl (cD, 8, .inr (.inr (.inr (.inr (fun _ => none)))))), (ho, .inl (cO, 1, .inr (.inl (fo))))] sz) [(ho, .inl (cO, 1, .inr (.inl (g))))] [(cO, .long)] t) (va_A [(h0, .inr (0, [.ref hd, v_buffer, v_fetched, v_compared, v_maker, v_writer, .ref hp, .int i_madeDocuments, .int i_fetchedSteps])), (hp, .inr (4, [.int 0, .int p_i_going, .int p_i_writesLeft])), (hd, .inl (cD, 8, .inr (.inr (.inr (.inr (fun _ => none)))))), (ho, .inl (cO, 1, .inr (.inl (fo))))] sz)) 0 0 (va_A [(h0, .inr (0, [.ref hd, v_buffer, v_fetched, v_compared, v_maker, v_writer, .ref hp, .int i_madeDocuments, .int i_fetchedSteps])), (hp, .inr (4, [.int 0, .int p_i_going, .int p_i_writesLeft])), (hd, .inl (cD, 8, .inr (.inr (.inr (.inr (fun _ => none)))))), (ho, .inl (cO, 1, .inr (.inl (fo))))] sz) := by
  refine va_MetW (hh := [(0, 10, 13, 13)]) (cc := method_6_code) (maxL := 5) (ret := (some .int)) (by decide) rfl ?_
  intro p e s m args below meth c s₁ B hml hv
  obtain ⟨rfl, hsz, hP, hK, hD0, hN⟩ := hv
  have hx := B.exec
  have hb := B.bytes
  have hr := B.returns
  have hts := atoms_spec (ws := k_L_commit) B.pre
  have hw0 : ∀ w ∈ w0, w.before _ s = true := fun w h => hts w (List.mem_cons_of_mem _ h)
  have hown : s.vm.findClass R_L = some m.cls := findClass_of_methodNamed B.named
  have hlocks := B.notSynchronized
  subst hsz
  have hD := hD0.self (sz := s.heap.size)
  generalize hAe : va_A [(h0, .inr (0, [.ref hd, v_buffer, v_fetched, v_compared, v_maker, v_writer, .ref hp, .int i_madeDocuments, .int i_fetchedSteps])), (hp, .inr (4, [.int 0, .int p_i_going, .int p_i_writesLeft])), (hd, .inl (cD, 8, .inr (.inr (.inr (.inr (fun _ => none)))))), (ho, .inl (cO, 1, .inr (.inl (fo))))] s.heap.size = A at hD ⊢
  have hA : ∀ q : Nat, s.heap.size ≤ q → A q := fun q h => by rw [← hAe]; exact Or.inr h
  have hS : va_S A s.heap s.heap [] := va_S.rf
  have hP : va_P (dC, dI) vwCl [(h0, .inr (0, [.ref hd, v_buffer, v_fetched, v_compared, v_maker, v_writer, .ref hp, .int i_madeDocuments, .int i_fetchedSteps])), (hp, .inr (4, [.int 0, .int p_i_going, .int p_i_writesLeft])), (hd, .inl (cD, 8, .inr (.inr (.inr (.inr (fun _ => none)))))), (ho, .inl (cO, 1, .inr (.inl (fo))))] s.heap := hP
  have hl := lv_entry ([.ref h0, .int a1, .int a2, .ref ho]) (n := 5) (Nat.le_of_ble_eq_true rfl)
  rw [lg_entry_eq]
  generalize (lg_sl ([.ref h0, .int a1, .int a2, .ref ho]) ++ List.replicate (5 - (lg_sl ([.ref h0, .int a1, .int a2, .ref ho])).length) Slot.unset).toArray = ls at hl ⊢
  have hl : lv_has ls 5 [(0, .ref h0), (1, .int a1), (2, .int a2), (3, .ref ho)] := hl
  refine lv_aload_n hx hb d_L_commit_0 rfl (lv_at hl 3 rfl) ?_
  refine lv_iconst (v := 0) hx hb d_L_commit_1 (by decide) ?_
  refine lv_aload_n hx hb d_L_commit_2 rfl (lv_at hl 0 rfl) ?_
  refine lv_iload_n hx hb d_L_commit_3 rfl (lv_at hl 1 rfl) ?_
  refine lv_iload_n hx hb d_L_commit_4 rfl (lv_at hl 2 rfl) ?_
  have hPc := hP.sub (ws' := [(h0, .inr (0, [.ref hd, v_buffer, v_fetched, v_compared, v_maker, v_writer, .ref hp, .int i_madeDocuments, .int i_fetchedSteps])), (hp, .inr (4, [.int 0, .int p_i_going, .int p_i_writesLeft])), (hd, .inl (cD, 8, .inr (.inr (.inr (.inr (fun _ => none))))))]) [0, 1, 2] rfl
  have hKc := hK.sub (tys' := [(cD, .object R_D)]) [0] rfl
  refine ps_i (va_runV (As := [.int a1, .int a2]) (rest := [.int 0, .ref ho]) ⟨hx, hb, hml, hown, hw0⟩ (c_commit l dC dI h0 v_buffer v_fetched v_compared v_maker v_writer i_madeDocuments i_fetchedSteps hp p_i_going p_i_writesLeft hd cD a1 a2) (cwV 2 hw0 (gd_V 284 285 286 111 287 rfl rfl rfl rfl rfl) rfl rfl rfl (by decide +kernel) ⟨by decide +kernel, by decide +kernel⟩) (prV_R hPc hKc hN (va_recv hKc hPc (ci := 0) (q0 := 0) rfl rfl)) rfl rfl hl.1 rfl (lv_room (Nat.le_of_ble_eq_true rfl)) d_L_commit_5 ⟨by decide +kernel, by decide +kernel⟩) (fun r_1 hr_1 => ?_)
  obtain rfl : r_1 = (-1) := hr_1
  refine lv_i2l (v := (-1)) hx hb d_L_commit_8 (by decide +kernel) ?_
  refine va_last hx hb hK hP hD hS 3 1 rfl rfl (by unfold vp_in; decide +kernel) d_L_commit_9 (fun H locs hP hD hS => ?_)
  replace hP : va_P (dC, dI) vwCl [(h0, .inr (0, [.ref hd, v_buffer, v_fetched, v_compared, v_maker, v_writer, .ref hp, .int i_madeDocuments, .int i_fetchedSteps])), (hp, .inr (4, [.int 0, .int p_i_going, .int p_i_writesLeft])), (hd, .inl (cD, 8, .inr (.inr (.inr (.inr (fun _ => none)))))), (ho, .inl (cO, 1, .inr (.inl (vp_updL (fo) (Int32.toNatClampNeg 0) ((-1))))))] H := hP
  replace hD : va_D A [(h0, .inr (0, [.ref hd, v_buffer, v_fetched, v_compared, v_maker, v_writer, .ref hp, .int i_madeDocuments, .int i_fetchedSteps])), (hp, .inr (4, [.int 0, .int p_i_going, .int p_i_writesLeft])), (hd, .inl (cD, 8, .inr (.inr (.inr (.inr (fun _ => none)))))), (ho, .inl (cO, 1, .inr (.inl (vp_updL (fo) (Int32.toNatClampNeg 0) ((-1))))))] := hD
  refine lv_goto (tgt := 17) hx hb d_L_commit_10 (by decide) ?_
  refine lv_iconst (v := 0) hx hb d_L_commit_17 (by decide) ?_
  have hP9 := hP.sub (ws' := [(ho, .inl (cO, 1, .inr (.inl ((vp_updL (fo) (Int32.toNatClampNeg 0) ((-1)))))))]) [3] rfl
  have hD9 := hD.sub (ws' := [(ho, .inl (cO, 1, .inr (.inl ((vp_updL (fo) (Int32.toNatClampNeg 0) ((-1)))))))]) [3] (by decide) rfl
  have hK9 := hK.sub (tys' := [(cO, .long)]) [1] rfl
  exact W.iret (v := 0) hx hb hr (fun t ht hW => ⟨⟨0, (), rfl, rfl, (vp_updL (fo) (Int32.toNatClampNeg 0) ((-1))), x_up0, by rw [ht]; exact hP9, va_K.moved hW.alike hK9, hD9⟩, hS.F ht⟩) hS.2.2 d_L_commit_18
set_option maxHeartbeats 4000000 in
set_option maxRecDepth 100000 in
theorem w_fetch (l : Launch) (dC : Nat → ClassId) (dI : Nat → Nat → Nat) (sz : Nat) (h0 : Nat) (v_buffer : Value) (v_fetched : Value) (v_compared : Value) (v_maker : Value) (v_writer : Value) (i_madeDocuments : Int32) (i_fetchedSteps : Int32) (hp : Nat) (p_i_going : Int32) (p_i_writesLeft : Int32) (hd : Nat) (cD : ClassId) (a1 : Int32) (a2 : Int32) (ho : Nat) (cO : ClassId) (fo : Nat → Int64)  : Met l y_L_fetch k_L_fetch ({ frames := 2, cells := 0, slots := 0, locals := 45 } : Room) (va_Pc [.ref h0, .int a1, .int a2, .ref ho] (pc_E (dC, dI) [(h0, .inr (0, [.ref hd, v_buffer, v_fetched, v_compared, v_maker, v_writer, .ref hp, .int i_madeDocuments, .int i_fetchedSteps])), (hp, .inr (4, [.int 0, .int p_i_going, .int p_i_writesLeft])), (hd, .inl (cD, 8, .inr (.inr (.inr (.inr (fun _ => none)))))), (ho, .inl (cO, 1, .inr (.inl (fo))))] [(cD, .object R_D), (cO, .long)] sz)) (va_Qi (fun (r : Int32) (_ : Unit) => r = 0) (fun (_ : Unit) t => ∃ (g : Nat → Int64), (g 0 = (-1)) ∧ at_E (dC, dI) (va_A [(h0, .inr (0, [.ref hd, v_buffer, v_fetched, v_compared, v_maker, v_writer, .ref hp, .int i_madeDocuments, .int i_fetchedSteps])), (hp, .inr (4, [.int 0, .int p_i_going, .int p_i_writesLeft])), (hd, .inl (cD, 8, .inr (.inr (.inr (.inr (fun _ => none)))))), (ho, .inl (cO, 1, .inr (.inl (fo))))] sz) [(ho, .inl (cO, 1, .inr (.inl (g))))] [(cO, .long)] t) (va_A [(h0, .inr (0, [.ref hd, v_buffer, v_fetched, v_compared, v_maker, v_writer, .ref hp, .int i_madeDocuments, .int i_fetchedSteps])), (hp, .inr (4, [.int 0, .int p_i_going, .int p_i_writesLeft])), (hd, .inl (cD, 8, .inr (.inr (.inr (.inr (fun _ => none)))))), (ho, .inl (cO, 1, .inr (.inl (fo))))] sz)) 0 0 (va_A [(h0, .inr (0, [.ref hd, v_buffer, v_fetched, v_compared, v_maker, v_writer, .ref hp, .int i_madeDocuments, .int i_fetchedSteps])), (hp, .inr (4, [.int 0, .int p_i_going, .int p_i_writesLeft])), (hd, .inl (cD, 8, .inr (.inr (.inr (.inr (fun _ => none)))))), (ho, .inl (cO, 1, .inr (.inl (fo))))] sz) := by
  refine va_MetW (hh := [(0, 10, 13, 13)]) (cc := method_7_code) (maxL := 5) (ret := (some .int)) (by decide) rfl ?_
  intro p e s m args below meth c s₁ B hml hv
  obtain ⟨rfl, hsz, hP, hK, hD0, hN⟩ := hv
  have hx := B.exec
  have hb := B.bytes
  have hr := B.returns
  have hts := atoms_spec (ws := k_L_fetch) B.pre
  have hw0 : ∀ w ∈ w0, w.before _ s = true := fun w h => hts w (List.mem_cons_of_mem _ h)
  have hown : s.vm.findClass R_L = some m.cls := findClass_of_methodNamed B.named
  have hlocks := B.notSynchronized
  subst hsz
  have hD := hD0.self (sz := s.heap.size)
  generalize hAe : va_A [(h0, .inr (0, [.ref hd, v_buffer, v_fetched, v_compared, v_maker, v_writer, .ref hp, .int i_madeDocuments, .int i_fetchedSteps])), (hp, .inr (4, [.int 0, .int p_i_going, .int p_i_writesLeft])), (hd, .inl (cD, 8, .inr (.inr (.inr (.inr (fun _ => none)))))), (ho, .inl (cO, 1, .inr (.inl (fo))))] s.heap.size = A at hD ⊢
  have hA : ∀ q : Nat, s.heap.size ≤ q → A q := fun q h => by rw [← hAe]; exact Or.inr h
  have hS : va_S A s.heap s.heap [] := va_S.rf
  have hP : va_P (dC, dI) vwCl [(h0, .inr (0, [.ref hd, v_buffer, v_fetched, v_compared, v_maker, v_writer, .ref hp, .int i_madeDocuments, .int i_fetchedSteps])), (hp, .inr (4, [.int 0, .int p_i_going, .int p_i_writesLeft])), (hd, .inl (cD, 8, .inr (.inr (.inr (.inr (fun _ => none)))))), (ho, .inl (cO, 1, .inr (.inl (fo))))] s.heap := hP
  have hl := lv_entry ([.ref h0, .int a1, .int a2, .ref ho]) (n := 5) (Nat.le_of_ble_eq_true rfl)
  rw [lg_entry_eq]
  generalize (lg_sl ([.ref h0, .int a1, .int a2, .ref ho]) ++ List.replicate (5 - (lg_sl ([.ref h0, .int a1, .int a2, .ref ho])).length) Slot.unset).toArray = ls at hl ⊢
  have hl : lv_has ls 5 [(0, .ref h0), (1, .int a1), (2, .int a2), (3, .ref ho)] := hl
  refine lv_aload_n hx hb d_L_fetch_0 rfl (lv_at hl 3 rfl) ?_
  refine lv_iconst (v := 0) hx hb d_L_fetch_1 (by decide) ?_
  refine lv_aload_n hx hb d_L_fetch_2 rfl (lv_at hl 0 rfl) ?_
  refine lv_iload_n hx hb d_L_fetch_3 rfl (lv_at hl 1 rfl) ?_
  refine lv_iload_n hx hb d_L_fetch_4 rfl (lv_at hl 2 rfl) ?_
  have hPc := hP.sub (ws' := [(h0, .inr (0, [.ref hd, v_buffer, v_fetched, v_compared, v_maker, v_writer, .ref hp, .int i_madeDocuments, .int i_fetchedSteps])), (hp, .inr (4, [.int 0, .int p_i_going, .int p_i_writesLeft])), (hd, .inl (cD, 8, .inr (.inr (.inr (.inr (fun _ => none))))))]) [0, 1, 2] rfl
  have hKc := hK.sub (tys' := [(cD, .object R_D)]) [0] rfl
  refine ps_i (va_runV (As := [.int a1, .int a2]) (rest := [.int 0, .ref ho]) ⟨hx, hb, hml, hown, hw0⟩ (c_fetch l dC dI h0 v_buffer v_fetched v_compared v_maker v_writer i_madeDocuments i_fetchedSteps hp p_i_going p_i_writesLeft hd cD a1 a2) (cwV 2 hw0 (gd_V 288 289 290 111 291 rfl rfl rfl rfl rfl) rfl rfl rfl (by decide +kernel) ⟨by decide +kernel, by decide +kernel⟩) (prV_R hPc hKc hN (va_recv hKc hPc (ci := 0) (q0 := 0) rfl rfl)) rfl rfl hl.1 rfl (lv_room (Nat.le_of_ble_eq_true rfl)) d_L_fetch_5 ⟨by decide +kernel, by decide +kernel⟩) (fun r_1 hr_1 => ?_)
  obtain rfl : r_1 = (-1) := hr_1
  refine lv_i2l (v := (-1)) hx hb d_L_fetch_8 (by decide +kernel) ?_
  refine va_last hx hb hK hP hD hS 3 1 rfl rfl (by unfold vp_in; decide +kernel) d_L_fetch_9 (fun H locs hP hD hS => ?_)
  replace hP : va_P (dC, dI) vwCl [(h0, .inr (0, [.ref hd, v_buffer, v_fetched, v_compared, v_maker, v_writer, .ref hp, .int i_madeDocuments, .int i_fetchedSteps])), (hp, .inr (4, [.int 0, .int p_i_going, .int p_i_writesLeft])), (hd, .inl (cD, 8, .inr (.inr (.inr (.inr (fun _ => none)))))), (ho, .inl (cO, 1, .inr (.inl (vp_updL (fo) (Int32.toNatClampNeg 0) ((-1))))))] H := hP
  replace hD : va_D A [(h0, .inr (0, [.ref hd, v_buffer, v_fetched, v_compared, v_maker, v_writer, .ref hp, .int i_madeDocuments, .int i_fetchedSteps])), (hp, .inr (4, [.int 0, .int p_i_going, .int p_i_writesLeft])), (hd, .inl (cD, 8, .inr (.inr (.inr (.inr (fun _ => none)))))), (ho, .inl (cO, 1, .inr (.inl (vp_updL (fo) (Int32.toNatClampNeg 0) ((-1))))))] := hD
  refine lv_goto (tgt := 17) hx hb d_L_fetch_10 (by decide) ?_
  refine lv_iconst (v := 0) hx hb d_L_fetch_17 (by decide) ?_
  have hP9 := hP.sub (ws' := [(ho, .inl (cO, 1, .inr (.inl ((vp_updL (fo) (Int32.toNatClampNeg 0) ((-1)))))))]) [3] rfl
  have hD9 := hD.sub (ws' := [(ho, .inl (cO, 1, .inr (.inl ((vp_updL (fo) (Int32.toNatClampNeg 0) ((-1)))))))]) [3] (by decide) rfl
  have hK9 := hK.sub (tys' := [(cO, .long)]) [1] rfl
  exact W.iret (v := 0) hx hb hr (fun t ht hW => ⟨⟨0, (), rfl, rfl, (vp_updL (fo) (Int32.toNatClampNeg 0) ((-1))), x_up0, by rw [ht]; exact hP9, va_K.moved hW.alike hK9, hD9⟩, hS.F ht⟩) hS.2.2 d_L_fetch_18
set_option maxHeartbeats 4000000 in
set_option maxRecDepth 100000 in
theorem w_out (l : Launch) (dC : Nat → ClassId) (dI : Nat → Nat → Nat) (sz : Nat) (h0 : Nat) (v_documents : Value) (v_buffer : Value) (v_compared : Value) (v_maker : Value) (v_writer : Value) (i_madeDocuments : Int32) (i_fetchedSteps : Int32) (hp : Nat) (p_i_going : Int32) (p_i_writesLeft : Int32) (hf : Nat) (t_v_bytes : Value) (a1 : Int32) (ho : Nat) (cO : ClassId) (fo : Nat → Int64)  : Met l y_L_out k_L_out ({ frames := 2, cells := 0, slots := 0, locals := 42 } : Room) (va_Pc [.ref h0, .int a1, .ref ho] (pc_E (dC, dI) [(h0, .inr (0, [v_documents, v_buffer, .ref hf, v_compared, v_maker, v_writer, .ref hp, .int i_madeDocuments, .int i_fetchedSteps])), (hp, .inr (4, [.int 0, .int p_i_going, .int p_i_writesLeft])), (hf, .inr (1, [t_v_bytes, .int 0])), (ho, .inl (cO, 1, .inr (.inl (fo))))] [(cO, .long)] sz)) (va_Qi (fun (r : Int32) (_ : Unit) => r = 0) (fun (_ : Unit) t => ∃ (g : Nat → Int64), (g 0 = (-1)) ∧ at_E (dC, dI) (va_A [(h0, .inr (0, [v_documents, v_buffer, .ref hf, v_compared, v_maker, v_writer, .ref hp, .int i_madeDocuments, .int i_fetchedSteps])), (hp, .inr (4, [.int 0, .int p_i_going, .int p_i_writesLeft])), (hf, .inr (1, [t_v_bytes, .int 0])), (ho, .inl (cO, 1, .inr (.inl (fo))))] sz) [(ho, .inl (cO, 1, .inr (.inl (g))))] [(cO, .long)] t) (va_A [(h0, .inr (0, [v_documents, v_buffer, .ref hf, v_compared, v_maker, v_writer, .ref hp, .int i_madeDocuments, .int i_fetchedSteps])), (hp, .inr (4, [.int 0, .int p_i_going, .int p_i_writesLeft])), (hf, .inr (1, [t_v_bytes, .int 0])), (ho, .inl (cO, 1, .inr (.inl (fo))))] sz)) 0 0 (va_A [(h0, .inr (0, [v_documents, v_buffer, .ref hf, v_compared, v_maker, v_writer, .ref hp, .int i_madeDocuments, .int i_fetchedSteps])), (hp, .inr (4, [.int 0, .int p_i_going, .int p_i_writesLeft])), (hf, .inr (1, [t_v_bytes, .int 0])), (ho, .inl (cO, 1, .inr (.inl (fo))))] sz) := by
  refine va_MetW (hh := [(0, 9, 12, 13)]) (cc := method_8_code) (maxL := 4) (ret := (some .int)) (by decide) rfl ?_
  intro p e s m args below meth c s₁ B hml hv
  obtain ⟨rfl, hsz, hP, hK, hD0, hN⟩ := hv
  have hx := B.exec
  have hb := B.bytes
  have hr := B.returns
  have hts := atoms_spec (ws := k_L_out) B.pre
  have hw0 : ∀ w ∈ w0, w.before _ s = true := fun w h => hts w (List.mem_cons_of_mem _ h)
  have hown : s.vm.findClass R_L = some m.cls := findClass_of_methodNamed B.named
  have hlocks := B.notSynchronized
  subst hsz
  have hD := hD0.self (sz := s.heap.size)
  generalize hAe : va_A [(h0, .inr (0, [v_documents, v_buffer, .ref hf, v_compared, v_maker, v_writer, .ref hp, .int i_madeDocuments, .int i_fetchedSteps])), (hp, .inr (4, [.int 0, .int p_i_going, .int p_i_writesLeft])), (hf, .inr (1, [t_v_bytes, .int 0])), (ho, .inl (cO, 1, .inr (.inl (fo))))] s.heap.size = A at hD ⊢
  have hA : ∀ q : Nat, s.heap.size ≤ q → A q := fun q h => by rw [← hAe]; exact Or.inr h
  have hS : va_S A s.heap s.heap [] := va_S.rf
  have hP : va_P (dC, dI) vwCl [(h0, .inr (0, [v_documents, v_buffer, .ref hf, v_compared, v_maker, v_writer, .ref hp, .int i_madeDocuments, .int i_fetchedSteps])), (hp, .inr (4, [.int 0, .int p_i_going, .int p_i_writesLeft])), (hf, .inr (1, [t_v_bytes, .int 0])), (ho, .inl (cO, 1, .inr (.inl (fo))))] s.heap := hP
  have hl := lv_entry ([.ref h0, .int a1, .ref ho]) (n := 4) (Nat.le_of_ble_eq_true rfl)
  rw [lg_entry_eq]
  generalize (lg_sl ([.ref h0, .int a1, .ref ho]) ++ List.replicate (4 - (lg_sl ([.ref h0, .int a1, .ref ho])).length) Slot.unset).toArray = ls at hl ⊢
  have hl : lv_has ls 4 [(0, .ref h0), (1, .int a1), (2, .ref ho)] := hl
  refine lv_aload_n hx hb d_L_out_0 rfl (lv_at hl 2 rfl) ?_
  refine lv_iconst (v := 0) hx hb d_L_out_1 (by decide) ?_
  refine lv_aload_n hx hb d_L_out_2 rfl (lv_at hl 0 rfl) ?_
  refine lv_iload_n hx hb d_L_out_3 rfl (lv_at hl 1 rfl) ?_
  have hPc := hP.sub (ws' := [(h0, .inr (0, [v_documents, v_buffer, .ref hf, v_compared, v_maker, v_writer, .ref hp, .int i_madeDocuments, .int i_fetchedSteps])), (hp, .inr (4, [.int 0, .int p_i_going, .int p_i_writesLeft])), (hf, .inr (1, [t_v_bytes, .int 0]))]) [0, 1, 2] rfl
  have hKc := hK.sub (tys' := []) [] rfl
  refine ps_i (va_runV (As := [.int a1]) (rest := [.int 0, .ref ho]) ⟨hx, hb, hml, hown, hw0⟩ (c_out l dC dI h0 v_documents v_buffer v_compared v_maker v_writer i_madeDocuments i_fetchedSteps hp p_i_going p_i_writesLeft hf t_v_bytes a1) (cwV 1 hw0 (gd_V 292 293 294 111 295 rfl rfl rfl rfl rfl) rfl rfl rfl (by decide +kernel) ⟨by decide +kernel, by decide +kernel⟩) (prV_R hPc hKc hN (va_recv hKc hPc (ci := 0) (q0 := 0) rfl rfl)) rfl rfl hl.1 rfl (lv_room (Nat.le_of_ble_eq_true rfl)) d_L_out_4 ⟨by decide +kernel, by decide +kernel⟩) (fun r_1 hr_1 => ?_)
  obtain rfl : r_1 = (-1) := hr_1
  refine lv_i2l (v := (-1)) hx hb d_L_out_7 (by decide +kernel) ?_
  refine va_last hx hb hK hP hD hS 3 0 rfl rfl (by unfold vp_in; decide +kernel) d_L_out_8 (fun H locs hP hD hS => ?_)
  replace hP : va_P (dC, dI) vwCl [(h0, .inr (0, [v_documents, v_buffer, .ref hf, v_compared, v_maker, v_writer, .ref hp, .int i_madeDocuments, .int i_fetchedSteps])), (hp, .inr (4, [.int 0, .int p_i_going, .int p_i_writesLeft])), (hf, .inr (1, [t_v_bytes, .int 0])), (ho, .inl (cO, 1, .inr (.inl (vp_updL (fo) (Int32.toNatClampNeg 0) ((-1))))))] H := hP
  replace hD : va_D A [(h0, .inr (0, [v_documents, v_buffer, .ref hf, v_compared, v_maker, v_writer, .ref hp, .int i_madeDocuments, .int i_fetchedSteps])), (hp, .inr (4, [.int 0, .int p_i_going, .int p_i_writesLeft])), (hf, .inr (1, [t_v_bytes, .int 0])), (ho, .inl (cO, 1, .inr (.inl (vp_updL (fo) (Int32.toNatClampNeg 0) ((-1))))))] := hD
  refine lv_goto (tgt := 15) hx hb d_L_out_9 (by decide) ?_
  refine lv_iconst (v := 0) hx hb d_L_out_15 (by decide) ?_
  have hP9 := hP.sub (ws' := [(ho, .inl (cO, 1, .inr (.inl ((vp_updL (fo) (Int32.toNatClampNeg 0) ((-1)))))))]) [3] rfl
  have hD9 := hD.sub (ws' := [(ho, .inl (cO, 1, .inr (.inl ((vp_updL (fo) (Int32.toNatClampNeg 0) ((-1)))))))]) [3] (by decide) rfl
  have hK9 := hK.sub (tys' := [(cO, .long)]) [0] rfl
  exact W.iret (v := 0) hx hb hr (fun t ht hW => ⟨⟨0, (), rfl, rfl, (vp_updL (fo) (Int32.toNatClampNeg 0) ((-1))), x_up0, by rw [ht]; exact hP9, va_K.moved hW.alike hK9, hD9⟩, hS.F ht⟩) hS.2.2 d_L_out_16
set_option maxHeartbeats 4000000 in
set_option maxRecDepth 100000 in
theorem w_steps (l : Launch) (dC : Nat → ClassId) (dI : Nat → Nat → Nat) (sz : Nat) (h0 : Nat) (v_documents : Value) (v_buffer : Value) (v_fetched : Value) (v_compared : Value) (v_maker : Value) (v_writer : Value) (i_madeDocuments : Int32) (hp : Nat) (p_i_going : Int32) (p_i_writesLeft : Int32) (ho : Nat) (cO : ClassId) (fo : Nat → Int64)  : Met l y_L_steps k_L_steps ({ frames := 2, cells := 0, slots := 0, locals := 40 } : Room) (va_Pc [.ref h0, .ref ho] (pc_E (dC, dI) [(h0, .inr (0, [v_documents, v_buffer, v_fetched, v_compared, v_maker, v_writer, .ref hp, .int i_madeDocuments, .int (-1)])), (hp, .inr (4, [.int 0, .int p_i_going, .int p_i_writesLeft])), (ho, .inl (cO, 1, .inr (.inl (fo))))] [(cO, .long)] sz)) (va_Qi (fun (r : Int32) (_ : Unit) => r = 0) (fun (_ : Unit) t => ∃ (g : Nat → Int64), (g 0 = (-1)) ∧ at_E (dC, dI) (va_A [(h0, .inr (0, [v_documents, v_buffer, v_fetched, v_compared, v_maker, v_writer, .ref hp, .int i_madeDocuments, .int (-1)])), (hp, .inr (4, [.int 0, .int p_i_going, .int p_i_writesLeft])), (ho, .inl (cO, 1, .inr (.inl (fo))))] sz) [(ho, .inl (cO, 1, .inr (.inl (g))))] [(cO, .long)] t) (va_A [(h0, .inr (0, [v_documents, v_buffer, v_fetched, v_compared, v_maker, v_writer, .ref hp, .int i_madeDocuments, .int (-1)])), (hp, .inr (4, [.int 0, .int p_i_going, .int p_i_writesLeft])), (ho, .inl (cO, 1, .inr (.inl (fo))))] sz)) 0 0 (va_A [(h0, .inr (0, [v_documents, v_buffer, v_fetched, v_compared, v_maker, v_writer, .ref hp, .int i_madeDocuments, .int (-1)])), (hp, .inr (4, [.int 0, .int p_i_going, .int p_i_writesLeft])), (ho, .inl (cO, 1, .inr (.inl (fo))))] sz) := by
  refine va_MetW (hh := [(0, 8, 11, 13)]) (cc := method_9_code) (maxL := 3) (ret := (some .int)) (by decide) rfl ?_
  intro p e s m args below meth c s₁ B hml hv
  obtain ⟨rfl, hsz, hP, hK, hD0, hN⟩ := hv
  have hx := B.exec
  have hb := B.bytes
  have hr := B.returns
  have hts := atoms_spec (ws := k_L_steps) B.pre
  have hw0 : ∀ w ∈ w0, w.before _ s = true := fun w h => hts w (List.mem_cons_of_mem _ h)
  have hown : s.vm.findClass R_L = some m.cls := findClass_of_methodNamed B.named
  have hlocks := B.notSynchronized
  subst hsz
  have hD := hD0.self (sz := s.heap.size)
  generalize hAe : va_A [(h0, .inr (0, [v_documents, v_buffer, v_fetched, v_compared, v_maker, v_writer, .ref hp, .int i_madeDocuments, .int (-1)])), (hp, .inr (4, [.int 0, .int p_i_going, .int p_i_writesLeft])), (ho, .inl (cO, 1, .inr (.inl (fo))))] s.heap.size = A at hD ⊢
  have hA : ∀ q : Nat, s.heap.size ≤ q → A q := fun q h => by rw [← hAe]; exact Or.inr h
  have hS : va_S A s.heap s.heap [] := va_S.rf
  have hP : va_P (dC, dI) vwCl [(h0, .inr (0, [v_documents, v_buffer, v_fetched, v_compared, v_maker, v_writer, .ref hp, .int i_madeDocuments, .int (-1)])), (hp, .inr (4, [.int 0, .int p_i_going, .int p_i_writesLeft])), (ho, .inl (cO, 1, .inr (.inl (fo))))] s.heap := hP
  have hl := lv_entry ([.ref h0, .ref ho]) (n := 3) (Nat.le_of_ble_eq_true rfl)
  rw [lg_entry_eq]
  generalize (lg_sl ([.ref h0, .ref ho]) ++ List.replicate (3 - (lg_sl ([.ref h0, .ref ho])).length) Slot.unset).toArray = ls at hl ⊢
  have hl : lv_has ls 3 [(0, .ref h0), (1, .ref ho)] := hl
  refine lv_aload_n hx hb d_L_steps_0 rfl (lv_at hl 1 rfl) ?_
  refine lv_iconst (v := 0) hx hb d_L_steps_1 (by decide) ?_
  refine lv_aload_n hx hb d_L_steps_2 rfl (lv_at hl 0 rfl) ?_
  have hPc := hP.sub (ws' := [(h0, .inr (0, [v_documents, v_buffer, v_fetched, v_compared, v_maker, v_writer, .ref hp, .int i_madeDocuments, .int (-1)])), (hp, .inr (4, [.int 0, .int p_i_going, .int p_i_writesLeft]))]) [0, 1] rfl
  have hKc := hK.sub (tys' := []) [] rfl
  refine ps_i (va_runV (As := []) (rest := [.int 0, .ref ho]) ⟨hx, hb, hml, hown, hw0⟩ (c_steps l dC dI h0 v_documents v_buffer v_fetched v_compared v_maker v_writer i_madeDocuments hp p_i_going p_i_writesLeft) (cwV 0 hw0 (gd_V 296 297 298 111 299 rfl rfl rfl rfl rfl) rfl rfl rfl (by decide +kernel) ⟨by decide +kernel, by decide +kernel⟩) (prV_R hPc hKc hN (va_recv hKc hPc (ci := 0) (q0 := 0) rfl rfl)) rfl rfl hl.1 rfl (lv_room (Nat.le_of_ble_eq_true rfl)) d_L_steps_3 ⟨by decide +kernel, by decide +kernel⟩) (fun r_1 hr_1 => ?_)
  obtain rfl : r_1 = (-1) := hr_1
  refine lv_i2l (v := (-1)) hx hb d_L_steps_6 (by decide +kernel) ?_
  refine va_last hx hb hK hP hD hS 2 0 rfl rfl (by unfold vp_in; decide +kernel) d_L_steps_7 (fun H locs hP hD hS => ?_)
  replace hP : va_P (dC, dI) vwCl [(h0, .inr (0, [v_documents, v_buffer, v_fetched, v_compared, v_maker, v_writer, .ref hp, .int i_madeDocuments, .int (-1)])), (hp, .inr (4, [.int 0, .int p_i_going, .int p_i_writesLeft])), (ho, .inl (cO, 1, .inr (.inl (vp_updL (fo) (Int32.toNatClampNeg 0) ((-1))))))] H := hP
  replace hD : va_D A [(h0, .inr (0, [v_documents, v_buffer, v_fetched, v_compared, v_maker, v_writer, .ref hp, .int i_madeDocuments, .int (-1)])), (hp, .inr (4, [.int 0, .int p_i_going, .int p_i_writesLeft])), (ho, .inl (cO, 1, .inr (.inl (vp_updL (fo) (Int32.toNatClampNeg 0) ((-1))))))] := hD
  refine lv_goto (tgt := 14) hx hb d_L_steps_8 (by decide) ?_
  refine lv_iconst (v := 0) hx hb d_L_steps_14 (by decide) ?_
  have hP9 := hP.sub (ws' := [(ho, .inl (cO, 1, .inr (.inl ((vp_updL (fo) (Int32.toNatClampNeg 0) ((-1)))))))]) [2] rfl
  have hD9 := hD.sub (ws' := [(ho, .inl (cO, 1, .inr (.inl ((vp_updL (fo) (Int32.toNatClampNeg 0) ((-1)))))))]) [2] (by decide) rfl
  have hK9 := hK.sub (tys' := [(cO, .long)]) [0] rfl
  exact W.iret (v := 0) hx hb hr (fun t ht hW => ⟨⟨0, (), rfl, rfl, (vp_updL (fo) (Int32.toNatClampNeg 0) ((-1))), x_up0, by rw [ht]; exact hP9, va_K.moved hW.alike hK9, hD9⟩, hS.F ht⟩) hS.2.2 d_L_steps_15
set_option maxHeartbeats 4000000 in
set_option maxRecDepth 100000 in
theorem w_trim (l : Launch) (dC : Nat → ClassId) (dI : Nat → Nat → Nat) (sz : Nat) (h0 : Nat) (v_buffer : Value) (v_fetched : Value) (v_compared : Value) (v_maker : Value) (v_writer : Value) (i_madeDocuments : Int32) (i_fetchedSteps : Int32) (hp : Nat) (p_i_going : Int32) (p_i_writesLeft : Int32) (hd : Nat) (cD : ClassId) (a1 : Int32) (a2 : Int32) (ho : Nat) (cO : ClassId) (fo : Nat → Int64)  : Met l y_L_trim k_L_trim ({ frames := 2, cells := 0, slots := 0, locals := 44 } : Room) (va_Pc [.ref h0, .int a1, .int a2, .ref ho] (pc_E (dC, dI) [(h0, .inr (0, [.ref hd, v_buffer, v_fetched, v_compared, v_maker, v_writer, .ref hp, .int i_madeDocuments, .int i_fetchedSteps])), (hp, .inr (4, [.int 0, .int p_i_going, .int p_i_writesLeft])), (hd, .inl (cD, 8, .inr (.inr (.inr (.inr (fun _ => none)))))), (ho, .inl (cO, 1, .inr (.inl (fo))))] [(cD, .object R_D), (cO, .long)] sz)) (va_Qi (fun (r : Int32) (_ : Unit) => r = 0) (fun (_ : Unit) t => ∃ (g : Nat → Int64), (g 0 = 0) ∧ at_E (dC, dI) (va_A [(h0, .inr (0, [.ref hd, v_buffer, v_fetched, v_compared, v_maker, v_writer, .ref hp, .int i_madeDocuments, .int i_fetchedSteps])), (hp, .inr (4, [.int 0, .int p_i_going, .int p_i_writesLeft])), (hd, .inl (cD, 8, .inr (.inr (.inr (.inr (fun _ => none)))))), (ho, .inl (cO, 1, .inr (.inl (fo))))] sz) [(ho, .inl (cO, 1, .inr (.inl (g))))] [(cO, .long)] t) (va_A [(h0, .inr (0, [.ref hd, v_buffer, v_fetched, v_compared, v_maker, v_writer, .ref hp, .int i_madeDocuments, .int i_fetchedSteps])), (hp, .inr (4, [.int 0, .int p_i_going, .int p_i_writesLeft])), (hd, .inl (cD, 8, .inr (.inr (.inr (.inr (fun _ => none)))))), (ho, .inl (cO, 1, .inr (.inl (fo))))] sz)) 0 0 (va_A [(h0, .inr (0, [.ref hd, v_buffer, v_fetched, v_compared, v_maker, v_writer, .ref hp, .int i_madeDocuments, .int i_fetchedSteps])), (hp, .inr (4, [.int 0, .int p_i_going, .int p_i_writesLeft])), (hd, .inl (cD, 8, .inr (.inr (.inr (.inr (fun _ => none)))))), (ho, .inl (cO, 1, .inr (.inl (fo))))] sz) := by
  refine va_MetW (hh := [(0, 17, 20, 13)]) (cc := method_10_code) (maxL := 5) (ret := (some .int)) (by decide) rfl ?_
  intro p e s m args below meth c s₁ B hml hv
  obtain ⟨rfl, hsz, hP, hK, hD0, hN⟩ := hv
  have hx := B.exec
  have hb := B.bytes
  have hr := B.returns
  have hts := atoms_spec (ws := k_L_trim) B.pre
  have hw0 : ∀ w ∈ w0, w.before _ s = true := fun w h => hts w (List.mem_cons_of_mem _ h)
  have hown : s.vm.findClass R_L = some m.cls := findClass_of_methodNamed B.named
  have hlocks := B.notSynchronized
  subst hsz
  have hD := hD0.self (sz := s.heap.size)
  generalize hAe : va_A [(h0, .inr (0, [.ref hd, v_buffer, v_fetched, v_compared, v_maker, v_writer, .ref hp, .int i_madeDocuments, .int i_fetchedSteps])), (hp, .inr (4, [.int 0, .int p_i_going, .int p_i_writesLeft])), (hd, .inl (cD, 8, .inr (.inr (.inr (.inr (fun _ => none)))))), (ho, .inl (cO, 1, .inr (.inl (fo))))] s.heap.size = A at hD ⊢
  have hA : ∀ q : Nat, s.heap.size ≤ q → A q := fun q h => by rw [← hAe]; exact Or.inr h
  have hS : va_S A s.heap s.heap [] := va_S.rf
  have hP : va_P (dC, dI) vwCl [(h0, .inr (0, [.ref hd, v_buffer, v_fetched, v_compared, v_maker, v_writer, .ref hp, .int i_madeDocuments, .int i_fetchedSteps])), (hp, .inr (4, [.int 0, .int p_i_going, .int p_i_writesLeft])), (hd, .inl (cD, 8, .inr (.inr (.inr (.inr (fun _ => none)))))), (ho, .inl (cO, 1, .inr (.inl (fo))))] s.heap := hP
  have hl := lv_entry ([.ref h0, .int a1, .int a2, .ref ho]) (n := 5) (Nat.le_of_ble_eq_true rfl)
  rw [lg_entry_eq]
  generalize (lg_sl ([.ref h0, .int a1, .int a2, .ref ho]) ++ List.replicate (5 - (lg_sl ([.ref h0, .int a1, .int a2, .ref ho])).length) Slot.unset).toArray = ls at hl ⊢
  have hl : lv_has ls 5 [(0, .ref h0), (1, .int a1), (2, .int a2), (3, .ref ho)] := hl
  refine lv_aload_n hx hb d_L_trim_0 rfl (lv_at hl 3 rfl) ?_
  refine lv_iconst (v := 0) hx hb d_L_trim_1 (by decide) ?_
  refine lv_aload_n hx hb d_L_trim_2 rfl (lv_at hl 0 rfl) ?_
  refine lv_iload_n hx hb d_L_trim_3 rfl (lv_at hl 1 rfl) ?_
  refine lv_iload_n hx hb d_L_trim_4 rfl (lv_at hl 2 rfl) ?_
  have hPc := hP.sub (ws' := [(h0, .inr (0, [.ref hd, v_buffer, v_fetched, v_compared, v_maker, v_writer, .ref hp, .int i_madeDocuments, .int i_fetchedSteps])), (hp, .inr (4, [.int 0, .int p_i_going, .int p_i_writesLeft])), (hd, .inl (cD, 8, .inr (.inr (.inr (.inr (fun _ => none))))))]) [0, 1, 2] rfl
  have hKc := hK.sub (tys' := [(cD, .object R_D)]) [0] rfl
  refine ps_i (va_runV (As := [.int a1, .int a2]) (rest := [.int 0, .ref ho]) ⟨hx, hb, hml, hown, hw0⟩ (c_trim l dC dI h0 v_buffer v_fetched v_compared v_maker v_writer i_madeDocuments i_fetchedSteps hp p_i_going p_i_writesLeft hd cD a1 a2) (cwV 2 hw0 (gd_V 300 301 302 111 303 rfl rfl rfl rfl rfl) rfl rfl rfl (by decide +kernel) ⟨by decide +kernel, by decide +kernel⟩) (prV_R hPc hKc hN (va_recv hKc hPc (ci := 0) (q0 := 0) rfl rfl)) rfl rfl hl.1 rfl (lv_room (Nat.le_of_ble_eq_true rfl)) d_L_trim_5 ⟨by decide +kernel, by decide +kernel⟩) (fun r_1 hr_1 => ?_)
  obtain rfl : r_1 = 0 := hr_1
  refine lv_if_eq (tgt := 15) hx hb d_L_trim_8 (by decide) (fun _ => ?_) (fun h9 => absurd h9 (by decide +kernel))
  refine lv_lconst (v := 0) hx hb d_L_trim_15 (by decide) ?_
  refine va_last hx hb hK hP hD hS 3 1 rfl rfl (by unfold vp_in; decide +kernel) d_L_trim_16 (fun H locs hP hD hS => ?_)
  replace hP : va_P (dC, dI) vwCl [(h0, .inr (0, [.ref hd, v_buffer, v_fetched, v_compared, v_maker, v_writer, .ref hp, .int i_madeDocuments, .int i_fetchedSteps])), (hp, .inr (4, [.int 0, .int p_i_going, .int p_i_writesLeft])), (hd, .inl (cD, 8, .inr (.inr (.inr (.inr (fun _ => none)))))), (ho, .inl (cO, 1, .inr (.inl (vp_updL (fo) (Int32.toNatClampNeg 0) (0)))))] H := hP
  replace hD : va_D A [(h0, .inr (0, [.ref hd, v_buffer, v_fetched, v_compared, v_maker, v_writer, .ref hp, .int i_madeDocuments, .int i_fetchedSteps])), (hp, .inr (4, [.int 0, .int p_i_going, .int p_i_writesLeft])), (hd, .inl (cD, 8, .inr (.inr (.inr (.inr (fun _ => none)))))), (ho, .inl (cO, 1, .inr (.inl (vp_updL (fo) (Int32.toNatClampNeg 0) (0)))))] := hD
  refine lv_goto (tgt := 24) hx hb d_L_trim_17 (by decide) ?_
  refine lv_iconst (v := 0) hx hb d_L_trim_24 (by decide) ?_
  have hP9 := hP.sub (ws' := [(ho, .inl (cO, 1, .inr (.inl ((vp_updL (fo) (Int32.toNatClampNeg 0) (0))))))]) [3] rfl
  have hD9 := hD.sub (ws' := [(ho, .inl (cO, 1, .inr (.inl ((vp_updL (fo) (Int32.toNatClampNeg 0) (0))))))]) [3] (by decide) rfl
  have hK9 := hK.sub (tys' := [(cO, .long)]) [1] rfl
  exact W.iret (v := 0) hx hb hr (fun t ht hW => ⟨⟨0, (), rfl, rfl, (vp_updL (fo) (Int32.toNatClampNeg 0) (0)), x_up0, by rw [ht]; exact hP9, va_K.moved hW.alike hK9, hD9⟩, hS.F ht⟩) hS.2.2 d_L_trim_25
set_option maxHeartbeats 4000000 in
set_option maxRecDepth 100000 in
theorem w_dropDocument (l : Launch) (dC : Nat → ClassId) (dI : Nat → Nat → Nat) (sz : Nat) (h0 : Nat) (v_buffer : Value) (v_fetched : Value) (v_compared : Value) (v_maker : Value) (v_writer : Value) (i_madeDocuments : Int32) (i_fetchedSteps : Int32) (hp : Nat) (p_i_going : Int32) (p_i_writesLeft : Int32) (hd : Nat) (cD : ClassId) (a1 : Int32) (ho : Nat) (cO : ClassId) (fo : Nat → Int64)  : Met l y_L_dropDocument k_L_dropDocument ({ frames := 2, cells := 0, slots := 0, locals := 42 } : Room) (va_Pc [.ref h0, .int a1, .ref ho] (pc_E (dC, dI) [(h0, .inr (0, [.ref hd, v_buffer, v_fetched, v_compared, v_maker, v_writer, .ref hp, .int i_madeDocuments, .int i_fetchedSteps])), (hp, .inr (4, [.int 0, .int p_i_going, .int p_i_writesLeft])), (hd, .inl (cD, 8, .inr (.inr (.inr (.inr (fun _ => none)))))), (ho, .inl (cO, 1, .inr (.inl (fo))))] [(cD, .object R_D), (cO, .long)] sz)) (va_Qi (fun (r : Int32) (_ : Unit) => r = 0) (fun (_ : Unit) t => ∃ (g : Nat → Int64), (g 0 = 0) ∧ at_E (dC, dI) (va_A [(h0, .inr (0, [.ref hd, v_buffer, v_fetched, v_compared, v_maker, v_writer, .ref hp, .int i_madeDocuments, .int i_fetchedSteps])), (hp, .inr (4, [.int 0, .int p_i_going, .int p_i_writesLeft])), (hd, .inl (cD, 8, .inr (.inr (.inr (.inr (fun _ => none)))))), (ho, .inl (cO, 1, .inr (.inl (fo))))] sz) [(ho, .inl (cO, 1, .inr (.inl (g))))] [(cO, .long)] t) (va_A [(h0, .inr (0, [.ref hd, v_buffer, v_fetched, v_compared, v_maker, v_writer, .ref hp, .int i_madeDocuments, .int i_fetchedSteps])), (hp, .inr (4, [.int 0, .int p_i_going, .int p_i_writesLeft])), (hd, .inl (cD, 8, .inr (.inr (.inr (.inr (fun _ => none)))))), (ho, .inl (cO, 1, .inr (.inl (fo))))] sz)) 0 0 (va_A [(h0, .inr (0, [.ref hd, v_buffer, v_fetched, v_compared, v_maker, v_writer, .ref hp, .int i_madeDocuments, .int i_fetchedSteps])), (hp, .inr (4, [.int 0, .int p_i_going, .int p_i_writesLeft])), (hd, .inl (cD, 8, .inr (.inr (.inr (.inr (fun _ => none)))))), (ho, .inl (cO, 1, .inr (.inl (fo))))] sz) := by
  refine va_MetW (hh := [(0, 16, 19, 13)]) (cc := method_11_code) (maxL := 4) (ret := (some .int)) (by decide) rfl ?_
  intro p e s m args below meth c s₁ B hml hv
  obtain ⟨rfl, hsz, hP, hK, hD0, hN⟩ := hv
  have hx := B.exec
  have hb := B.bytes
  have hr := B.returns
  have hts := atoms_spec (ws := k_L_dropDocument) B.pre
  have hw0 : ∀ w ∈ w0, w.before _ s = true := fun w h => hts w (List.mem_cons_of_mem _ h)
  have hown : s.vm.findClass R_L = some m.cls := findClass_of_methodNamed B.named
  have hlocks := B.notSynchronized
  subst hsz
  have hD := hD0.self (sz := s.heap.size)
  generalize hAe : va_A [(h0, .inr (0, [.ref hd, v_buffer, v_fetched, v_compared, v_maker, v_writer, .ref hp, .int i_madeDocuments, .int i_fetchedSteps])), (hp, .inr (4, [.int 0, .int p_i_going, .int p_i_writesLeft])), (hd, .inl (cD, 8, .inr (.inr (.inr (.inr (fun _ => none)))))), (ho, .inl (cO, 1, .inr (.inl (fo))))] s.heap.size = A at hD ⊢
  have hA : ∀ q : Nat, s.heap.size ≤ q → A q := fun q h => by rw [← hAe]; exact Or.inr h
  have hS : va_S A s.heap s.heap [] := va_S.rf
  have hP : va_P (dC, dI) vwCl [(h0, .inr (0, [.ref hd, v_buffer, v_fetched, v_compared, v_maker, v_writer, .ref hp, .int i_madeDocuments, .int i_fetchedSteps])), (hp, .inr (4, [.int 0, .int p_i_going, .int p_i_writesLeft])), (hd, .inl (cD, 8, .inr (.inr (.inr (.inr (fun _ => none)))))), (ho, .inl (cO, 1, .inr (.inl (fo))))] s.heap := hP
  have hl := lv_entry ([.ref h0, .int a1, .ref ho]) (n := 4) (Nat.le_of_ble_eq_true rfl)
  rw [lg_entry_eq]
  generalize (lg_sl ([.ref h0, .int a1, .ref ho]) ++ List.replicate (4 - (lg_sl ([.ref h0, .int a1, .ref ho])).length) Slot.unset).toArray = ls at hl ⊢
  have hl : lv_has ls 4 [(0, .ref h0), (1, .int a1), (2, .ref ho)] := hl
  refine lv_aload_n hx hb d_L_dropDocument_0 rfl (lv_at hl 2 rfl) ?_
  refine lv_iconst (v := 0) hx hb d_L_dropDocument_1 (by decide) ?_
  refine lv_aload_n hx hb d_L_dropDocument_2 rfl (lv_at hl 0 rfl) ?_
  refine lv_iload_n hx hb d_L_dropDocument_3 rfl (lv_at hl 1 rfl) ?_
  have hPc := hP.sub (ws' := [(h0, .inr (0, [.ref hd, v_buffer, v_fetched, v_compared, v_maker, v_writer, .ref hp, .int i_madeDocuments, .int i_fetchedSteps])), (hp, .inr (4, [.int 0, .int p_i_going, .int p_i_writesLeft])), (hd, .inl (cD, 8, .inr (.inr (.inr (.inr (fun _ => none))))))]) [0, 1, 2] rfl
  have hKc := hK.sub (tys' := [(cD, .object R_D)]) [0] rfl
  refine ps_i (va_runV (As := [.int a1]) (rest := [.int 0, .ref ho]) ⟨hx, hb, hml, hown, hw0⟩ (c_dropDocument l dC dI h0 v_buffer v_fetched v_compared v_maker v_writer i_madeDocuments i_fetchedSteps hp p_i_going p_i_writesLeft hd cD a1) (cwV 1 hw0 (gd_V 304 305 306 111 307 rfl rfl rfl rfl rfl) rfl rfl rfl (by decide +kernel) ⟨by decide +kernel, by decide +kernel⟩) (prV_R hPc hKc hN (va_recv hKc hPc (ci := 0) (q0 := 0) rfl rfl)) rfl rfl hl.1 rfl (lv_room (Nat.le_of_ble_eq_true rfl)) d_L_dropDocument_4 ⟨by decide +kernel, by decide +kernel⟩) (fun r_1 hr_1 => ?_)
  obtain rfl : r_1 = 0 := hr_1
  refine lv_if_eq (tgt := 14) hx hb d_L_dropDocument_7 (by decide) (fun _ => ?_) (fun h9 => absurd h9 (by decide +kernel))
  refine lv_lconst (v := 0) hx hb d_L_dropDocument_14 (by decide) ?_
  refine va_last hx hb hK hP hD hS 3 1 rfl rfl (by unfold vp_in; decide +kernel) d_L_dropDocument_15 (fun H locs hP hD hS => ?_)
  replace hP : va_P (dC, dI) vwCl [(h0, .inr (0, [.ref hd, v_buffer, v_fetched, v_compared, v_maker, v_writer, .ref hp, .int i_madeDocuments, .int i_fetchedSteps])), (hp, .inr (4, [.int 0, .int p_i_going, .int p_i_writesLeft])), (hd, .inl (cD, 8, .inr (.inr (.inr (.inr (fun _ => none)))))), (ho, .inl (cO, 1, .inr (.inl (vp_updL (fo) (Int32.toNatClampNeg 0) (0)))))] H := hP
  replace hD : va_D A [(h0, .inr (0, [.ref hd, v_buffer, v_fetched, v_compared, v_maker, v_writer, .ref hp, .int i_madeDocuments, .int i_fetchedSteps])), (hp, .inr (4, [.int 0, .int p_i_going, .int p_i_writesLeft])), (hd, .inl (cD, 8, .inr (.inr (.inr (.inr (fun _ => none)))))), (ho, .inl (cO, 1, .inr (.inl (vp_updL (fo) (Int32.toNatClampNeg 0) (0)))))] := hD
  refine lv_goto (tgt := 22) hx hb d_L_dropDocument_16 (by decide) ?_
  refine lv_iconst (v := 0) hx hb d_L_dropDocument_22 (by decide) ?_
  have hP9 := hP.sub (ws' := [(ho, .inl (cO, 1, .inr (.inl ((vp_updL (fo) (Int32.toNatClampNeg 0) (0))))))]) [3] rfl
  have hD9 := hD.sub (ws' := [(ho, .inl (cO, 1, .inr (.inl ((vp_updL (fo) (Int32.toNatClampNeg 0) (0))))))]) [3] (by decide) rfl
  have hK9 := hK.sub (tys' := [(cO, .long)]) [1] rfl
  exact W.iret (v := 0) hx hb hr (fun t ht hW => ⟨⟨0, (), rfl, rfl, (vp_updL (fo) (Int32.toNatClampNeg 0) (0)), x_up0, by rw [ht]; exact hP9, va_K.moved hW.alike hK9, hD9⟩, hS.F ht⟩) hS.2.2 d_L_dropDocument_23
set_option maxHeartbeats 4000000 in
set_option maxRecDepth 100000 in
theorem w_pieceByte (l : Launch) (dC : Nat → ClassId) (dI : Nat → Nat → Nat) (sz : Nat) (h0 : Nat) (v_buffer : Value) (v_fetched : Value) (v_compared : Value) (v_maker : Value) (v_writer : Value) (i_madeDocuments : Int32) (i_fetchedSteps : Int32) (hp : Nat) (p_i_going : Int32) (p_i_writesLeft : Int32) (hd : Nat) (cD : ClassId) (a1 : Int32) (a2 : Int32) (a3 : Int32) (ho : Nat) (cO : ClassId) (fo : Nat → Int64)  : Met l y_L_pieceByte k_L_pieceByte ({ frames := 3, cells := 0, slots := 0, locals := 68 } : Room) (va_Pc [.ref h0, .int a1, .int a2, .int a3, .ref ho] (pc_E (dC, dI) [(h0, .inr (0, [.ref hd, v_buffer, v_fetched, v_compared, v_maker, v_writer, .ref hp, .int i_madeDocuments, .int i_fetchedSteps])), (hp, .inr (4, [.int 0, .int p_i_going, .int p_i_writesLeft])), (hd, .inl (cD, 8, .inr (.inr (.inr (.inr (fun _ => none)))))), (ho, .inl (cO, 1, .inr (.inl (fo))))] [(cD, .object R_D), (cO, .long)] sz)) (va_Qi (fun (r : Int32) (_ : Unit) => r = 0) (fun (_ : Unit) t => ∃ (g : Nat → Int64), (g 0 = (-1)) ∧ at_E (dC, dI) (va_A [(h0, .inr (0, [.ref hd, v_buffer, v_fetched, v_compared, v_maker, v_writer, .ref hp, .int i_madeDocuments, .int i_fetchedSteps])), (hp, .inr (4, [.int 0, .int p_i_going, .int p_i_writesLeft])), (hd, .inl (cD, 8, .inr (.inr (.inr (.inr (fun _ => none)))))), (ho, .inl (cO, 1, .inr (.inl (fo))))] sz) [(ho, .inl (cO, 1, .inr (.inl (g))))] [(cO, .long)] t) (va_A [(h0, .inr (0, [.ref hd, v_buffer, v_fetched, v_compared, v_maker, v_writer, .ref hp, .int i_madeDocuments, .int i_fetchedSteps])), (hp, .inr (4, [.int 0, .int p_i_going, .int p_i_writesLeft])), (hd, .inl (cD, 8, .inr (.inr (.inr (.inr (fun _ => none)))))), (ho, .inl (cO, 1, .inr (.inl (fo))))] sz)) 0 0 (va_A [(h0, .inr (0, [.ref hd, v_buffer, v_fetched, v_compared, v_maker, v_writer, .ref hp, .int i_madeDocuments, .int i_fetchedSteps])), (hp, .inr (4, [.int 0, .int p_i_going, .int p_i_writesLeft])), (hd, .inl (cD, 8, .inr (.inr (.inr (.inr (fun _ => none)))))), (ho, .inl (cO, 1, .inr (.inl (fo))))] sz) := by
  refine va_MetW (hh := [(0, 12, 15, 13)]) (cc := method_14_code) (maxL := 6) (ret := (some .int)) (by decide) rfl ?_
  intro p e s m args below meth c s₁ B hml hv
  obtain ⟨rfl, hsz, hP, hK, hD0, hN⟩ := hv
  have hx := B.exec
  have hb := B.bytes
  have hr := B.returns
  have hts := atoms_spec (ws := k_L_pieceByte) B.pre
  have hw0 : ∀ w ∈ w0, w.before _ s = true := fun w h => hts w (List.mem_cons_of_mem _ h)
  have hown : s.vm.findClass R_L = some m.cls := findClass_of_methodNamed B.named
  have hlocks := B.notSynchronized
  subst hsz
  have hD := hD0.self (sz := s.heap.size)
  generalize hAe : va_A [(h0, .inr (0, [.ref hd, v_buffer, v_fetched, v_compared, v_maker, v_writer, .ref hp, .int i_madeDocuments, .int i_fetchedSteps])), (hp, .inr (4, [.int 0, .int p_i_going, .int p_i_writesLeft])), (hd, .inl (cD, 8, .inr (.inr (.inr (.inr (fun _ => none)))))), (ho, .inl (cO, 1, .inr (.inl (fo))))] s.heap.size = A at hD ⊢
  have hA : ∀ q : Nat, s.heap.size ≤ q → A q := fun q h => by rw [← hAe]; exact Or.inr h
  have hS : va_S A s.heap s.heap [] := va_S.rf
  have hP : va_P (dC, dI) vwCl [(h0, .inr (0, [.ref hd, v_buffer, v_fetched, v_compared, v_maker, v_writer, .ref hp, .int i_madeDocuments, .int i_fetchedSteps])), (hp, .inr (4, [.int 0, .int p_i_going, .int p_i_writesLeft])), (hd, .inl (cD, 8, .inr (.inr (.inr (.inr (fun _ => none)))))), (ho, .inl (cO, 1, .inr (.inl (fo))))] s.heap := hP
  have hl := lv_entry ([.ref h0, .int a1, .int a2, .int a3, .ref ho]) (n := 6) (Nat.le_of_ble_eq_true rfl)
  rw [lg_entry_eq]
  generalize (lg_sl ([.ref h0, .int a1, .int a2, .int a3, .ref ho]) ++ List.replicate (6 - (lg_sl ([.ref h0, .int a1, .int a2, .int a3, .ref ho])).length) Slot.unset).toArray = ls at hl ⊢
  have hl : lv_has ls 6 [(0, .ref h0), (1, .int a1), (2, .int a2), (3, .int a3), (4, .ref ho)] := hl
  refine lv_aload hx hb d_L_pieceByte_0 (lv_at hl 4 rfl) ?_
  refine lv_iconst (v := 0) hx hb d_L_pieceByte_2 (by decide) ?_
  refine lv_aload_n hx hb d_L_pieceByte_3 rfl (lv_at hl 0 rfl) ?_
  refine lv_iload_n hx hb d_L_pieceByte_4 rfl (lv_at hl 1 rfl) ?_
  refine lv_iload_n hx hb d_L_pieceByte_5 rfl (lv_at hl 2 rfl) ?_
  refine lv_iload_n hx hb d_L_pieceByte_6 rfl (lv_at hl 3 rfl) ?_
  have hPc := hP.sub (ws' := [(h0, .inr (0, [.ref hd, v_buffer, v_fetched, v_compared, v_maker, v_writer, .ref hp, .int i_madeDocuments, .int i_fetchedSteps])), (hp, .inr (4, [.int 0, .int p_i_going, .int p_i_writesLeft])), (hd, .inl (cD, 8, .inr (.inr (.inr (.inr (fun _ => none))))))]) [0, 1, 2] rfl
  have hKc := hK.sub (tys' := [(cD, .object R_D)]) [0] rfl
  refine ps_i (va_runV (As := [.int a1, .int a2, .int a3]) (rest := [.int 0, .ref ho]) ⟨hx, hb, hml, hown, hw0⟩ (c_pieceByte l dC dI h0 v_buffer v_fetched v_compared v_maker v_writer i_madeDocuments i_fetchedSteps hp p_i_going p_i_writesLeft hd cD a1 a2 a3) (cwV 3 hw0 (gd_V 308 309 310 111 311 rfl rfl rfl rfl rfl) rfl rfl rfl (by decide +kernel) ⟨by decide +kernel, by decide +kernel⟩) (prV_R hPc hKc hN (va_recv hKc hPc (ci := 0) (q0 := 0) rfl rfl)) rfl rfl hl.1 rfl (lv_room (Nat.le_of_ble_eq_true rfl)) d_L_pieceByte_7 ⟨by decide +kernel, by decide +kernel⟩) (fun r_1 hr_1 => ?_)
  obtain rfl : r_1 = (-1) := hr_1
  refine lv_i2l (v := (-1)) hx hb d_L_pieceByte_10 (by decide +kernel) ?_
  refine va_last hx hb hK hP hD hS 3 1 rfl rfl (by unfold vp_in; decide +kernel) d_L_pieceByte_11 (fun H locs hP hD hS => ?_)
  replace hP : va_P (dC, dI) vwCl [(h0, .inr (0, [.ref hd, v_buffer, v_fetched, v_compared, v_maker, v_writer, .ref hp, .int i_madeDocuments, .int i_fetchedSteps])), (hp, .inr (4, [.int 0, .int p_i_going, .int p_i_writesLeft])), (hd, .inl (cD, 8, .inr (.inr (.inr (.inr (fun _ => none)))))), (ho, .inl (cO, 1, .inr (.inl (vp_updL (fo) (Int32.toNatClampNeg 0) ((-1))))))] H := hP
  replace hD : va_D A [(h0, .inr (0, [.ref hd, v_buffer, v_fetched, v_compared, v_maker, v_writer, .ref hp, .int i_madeDocuments, .int i_fetchedSteps])), (hp, .inr (4, [.int 0, .int p_i_going, .int p_i_writesLeft])), (hd, .inl (cD, 8, .inr (.inr (.inr (.inr (fun _ => none)))))), (ho, .inl (cO, 1, .inr (.inl (vp_updL (fo) (Int32.toNatClampNeg 0) ((-1))))))] := hD
  refine lv_goto (tgt := 19) hx hb d_L_pieceByte_12 (by decide) ?_
  refine lv_iconst (v := 0) hx hb d_L_pieceByte_19 (by decide) ?_
  have hP9 := hP.sub (ws' := [(ho, .inl (cO, 1, .inr (.inl ((vp_updL (fo) (Int32.toNatClampNeg 0) ((-1)))))))]) [3] rfl
  have hD9 := hD.sub (ws' := [(ho, .inl (cO, 1, .inr (.inl ((vp_updL (fo) (Int32.toNatClampNeg 0) ((-1)))))))]) [3] (by decide) rfl
  have hK9 := hK.sub (tys' := [(cO, .long)]) [1] rfl
  exact W.iret (v := 0) hx hb hr (fun t ht hW => ⟨⟨0, (), rfl, rfl, (vp_updL (fo) (Int32.toNatClampNeg 0) ((-1))), x_up0, by rw [ht]; exact hP9, va_K.moved hW.alike hK9, hD9⟩, hS.F ht⟩) hS.2.2 d_L_pieceByte_20
set_option maxHeartbeats 4000000 in
set_option maxRecDepth 100000 in
theorem w_damage (l : Launch) (dC : Nat → ClassId) (dI : Nat → Nat → Nat) (sz : Nat) (h0 : Nat) (v_buffer : Value) (v_fetched : Value) (v_compared : Value) (v_maker : Value) (v_writer : Value) (i_madeDocuments : Int32) (i_fetchedSteps : Int32) (hp : Nat) (p_i_going : Int32) (p_i_writesLeft : Int32) (hd : Nat) (cD : ClassId) (a1 : Int32) (a2 : Int32) (a3 : Int32) (a4 : Int32) (ho : Nat) (cO : ClassId) (fo : Nat → Int64)  : Met l y_L_damage k_L_damage ({ frames := 3, cells := 0, slots := 0, locals := 69 } : Room) (va_Pc [.ref h0, .int a1, .int a2, .int a3, .int a4, .ref ho] (pc_E (dC, dI) [(h0, .inr (0, [.ref hd, v_buffer, v_fetched, v_compared, v_maker, v_writer, .ref hp, .int i_madeDocuments, .int i_fetchedSteps])), (hp, .inr (4, [.int 0, .int p_i_going, .int p_i_writesLeft])), (hd, .inl (cD, 8, .inr (.inr (.inr (.inr (fun _ => none)))))), (ho, .inl (cO, 1, .inr (.inl (fo))))] [(cD, .object R_D), (cO, .long)] sz)) (va_Qi (fun (r : Int32) (_ : Unit) => r = 0) (fun (_ : Unit) t => ∃ (g : Nat → Int64), (g 0 = 0) ∧ at_E (dC, dI) (va_A [(h0, .inr (0, [.ref hd, v_buffer, v_fetched, v_compared, v_maker, v_writer, .ref hp, .int i_madeDocuments, .int i_fetchedSteps])), (hp, .inr (4, [.int 0, .int p_i_going, .int p_i_writesLeft])), (hd, .inl (cD, 8, .inr (.inr (.inr (.inr (fun _ => none)))))), (ho, .inl (cO, 1, .inr (.inl (fo))))] sz) [(ho, .inl (cO, 1, .inr (.inl (g))))] [(cO, .long)] t) (va_A [(h0, .inr (0, [.ref hd, v_buffer, v_fetched, v_compared, v_maker, v_writer, .ref hp, .int i_madeDocuments, .int i_fetchedSteps])), (hp, .inr (4, [.int 0, .int p_i_going, .int p_i_writesLeft])), (hd, .inl (cD, 8, .inr (.inr (.inr (.inr (fun _ => none)))))), (ho, .inl (cO, 1, .inr (.inl (fo))))] sz)) 0 0 (va_A [(h0, .inr (0, [.ref hd, v_buffer, v_fetched, v_compared, v_maker, v_writer, .ref hp, .int i_madeDocuments, .int i_fetchedSteps])), (hp, .inr (4, [.int 0, .int p_i_going, .int p_i_writesLeft])), (hd, .inl (cD, 8, .inr (.inr (.inr (.inr (fun _ => none)))))), (ho, .inl (cO, 1, .inr (.inl (fo))))] sz) := by
  refine va_MetW (hh := [(0, 21, 24, 13)]) (cc := method_15_code) (maxL := 7) (ret := (some .int)) (by decide) rfl ?_
  intro p e s m args below meth c s₁ B hml hv
  obtain ⟨rfl, hsz, hP, hK, hD0, hN⟩ := hv
  have hx := B.exec
  have hb := B.bytes
  have hr := B.returns
  have hts := atoms_spec (ws := k_L_damage) B.pre
  have hw0 : ∀ w ∈ w0, w.before _ s = true := fun w h => hts w (List.mem_cons_of_mem _ h)
  have hown : s.vm.findClass R_L = some m.cls := findClass_of_methodNamed B.named
  have hlocks := B.notSynchronized
  subst hsz
  have hD := hD0.self (sz := s.heap.size)
  generalize hAe : va_A [(h0, .inr (0, [.ref hd, v_buffer, v_fetched, v_compared, v_maker, v_writer, .ref hp, .int i_madeDocuments, .int i_fetchedSteps])), (hp, .inr (4, [.int 0, .int p_i_going, .int p_i_writesLeft])), (hd, .inl (cD, 8, .inr (.inr (.inr (.inr (fun _ => none)))))), (ho, .inl (cO, 1, .inr (.inl (fo))))] s.heap.size = A at hD ⊢
  have hA : ∀ q : Nat, s.heap.size ≤ q → A q := fun q h => by rw [← hAe]; exact Or.inr h
  have hS : va_S A s.heap s.heap [] := va_S.rf
  have hP : va_P (dC, dI) vwCl [(h0, .inr (0, [.ref hd, v_buffer, v_fetched, v_compared, v_maker, v_writer, .ref hp, .int i_madeDocuments, .int i_fetchedSteps])), (hp, .inr (4, [.int 0, .int p_i_going, .int p_i_writesLeft])), (hd, .inl (cD, 8, .inr (.inr (.inr (.inr (fun _ => none)))))), (ho, .inl (cO, 1, .inr (.inl (fo))))] s.heap := hP
  have hl := lv_entry ([.ref h0, .int a1, .int a2, .int a3, .int a4, .ref ho]) (n := 7) (Nat.le_of_ble_eq_true rfl)
  rw [lg_entry_eq]
  generalize (lg_sl ([.ref h0, .int a1, .int a2, .int a3, .int a4, .ref ho]) ++ List.replicate (7 - (lg_sl ([.ref h0, .int a1, .int a2, .int a3, .int a4, .ref ho])).length) Slot.unset).toArray = ls at hl ⊢
  have hl : lv_has ls 7 [(0, .ref h0), (1, .int a1), (2, .int a2), (3, .int a3), (4, .int a4), (5, .ref ho)] := hl
  refine lv_aload hx hb d_L_damage_0 (lv_at hl 5 rfl) ?_
  refine lv_iconst (v := 0) hx hb d_L_damage_2 (by decide) ?_
  refine lv_aload_n hx hb d_L_damage_3 rfl (lv_at hl 0 rfl) ?_
  refine lv_iload_n hx hb d_L_damage_4 rfl (lv_at hl 1 rfl) ?_
  refine lv_iload_n hx hb d_L_damage_5 rfl (lv_at hl 2 rfl) ?_
  refine lv_iload_n hx hb d_L_damage_6 rfl (lv_at hl 3 rfl) ?_
  refine lv_iload hx hb d_L_damage_7 (lv_at hl 4 rfl) ?_
  have hPc := hP.sub (ws' := [(h0, .inr (0, [.ref hd, v_buffer, v_fetched, v_compared, v_maker, v_writer, .ref hp, .int i_madeDocuments, .int i_fetchedSteps])), (hp, .inr (4, [.int 0, .int p_i_going, .int p_i_writesLeft])), (hd, .inl (cD, 8, .inr (.inr (.inr (.inr (fun _ => none))))))]) [0, 1, 2] rfl
  have hKc := hK.sub (tys' := [(cD, .object R_D)]) [0] rfl
  refine ps_i (va_runV (As := [.int a1, .int a2, .int a3, .int a4]) (rest := [.int 0, .ref ho]) ⟨hx, hb, hml, hown, hw0⟩ (c_damage l dC dI h0 v_buffer v_fetched v_compared v_maker v_writer i_madeDocuments i_fetchedSteps hp p_i_going p_i_writesLeft hd cD a1 a2 a3 a4) (cwV 4 hw0 (gd_V 312 313 314 111 315 rfl rfl rfl rfl rfl) rfl rfl rfl (by decide +kernel) ⟨by decide +kernel, by decide +kernel⟩) (prV_R hPc hKc hN (va_recv hKc hPc (ci := 0) (q0 := 0) rfl rfl)) rfl rfl hl.1 rfl (lv_room (Nat.le_of_ble_eq_true rfl)) d_L_damage_9 ⟨by decide +kernel, by decide +kernel⟩) (fun r_1 hr_1 => ?_)
  obtain rfl : r_1 = 0 := hr_1
  refine lv_if_eq (tgt := 19) hx hb d_L_damage_12 (by decide) (fun _ => ?_) (fun h9 => absurd h9 (by decide +kernel))
  refine lv_lconst (v := 0) hx hb d_L_damage_19 (by decide) ?_
  refine va_last hx hb hK hP hD hS 3 1 rfl rfl (by unfold vp_in; decide +kernel) d_L_damage_20 (fun H locs hP hD hS => ?_)
  replace hP : va_P (dC, dI) vwCl [(h0, .inr (0, [.ref hd, v_buffer, v_fetched, v_compared, v_maker, v_writer, .ref hp, .int i_madeDocuments, .int i_fetchedSteps])), (hp, .inr (4, [.int 0, .int p_i_going, .int p_i_writesLeft])), (hd, .inl (cD, 8, .inr (.inr (.inr (.inr (fun _ => none)))))), (ho, .inl (cO, 1, .inr (.inl (vp_updL (fo) (Int32.toNatClampNeg 0) (0)))))] H := hP
  replace hD : va_D A [(h0, .inr (0, [.ref hd, v_buffer, v_fetched, v_compared, v_maker, v_writer, .ref hp, .int i_madeDocuments, .int i_fetchedSteps])), (hp, .inr (4, [.int 0, .int p_i_going, .int p_i_writesLeft])), (hd, .inl (cD, 8, .inr (.inr (.inr (.inr (fun _ => none)))))), (ho, .inl (cO, 1, .inr (.inl (vp_updL (fo) (Int32.toNatClampNeg 0) (0)))))] := hD
  refine lv_goto (tgt := 28) hx hb d_L_damage_21 (by decide) ?_
  refine lv_iconst (v := 0) hx hb d_L_damage_28 (by decide) ?_
  have hP9 := hP.sub (ws' := [(ho, .inl (cO, 1, .inr (.inl ((vp_updL (fo) (Int32.toNatClampNeg 0) (0))))))]) [3] rfl
  have hD9 := hD.sub (ws' := [(ho, .inl (cO, 1, .inr (.inl ((vp_updL (fo) (Int32.toNatClampNeg 0) (0))))))]) [3] (by decide) rfl
  have hK9 := hK.sub (tys' := [(cO, .long)]) [1] rfl
  exact W.iret (v := 0) hx hb hr (fun t ht hW => ⟨⟨0, (), rfl, rfl, (vp_updL (fo) (Int32.toNatClampNeg 0) (0)), x_up0, by rw [ht]; exact hP9, va_K.moved hW.alike hK9, hD9⟩, hS.F ht⟩) hS.2.2 d_L_damage_29
set_option maxHeartbeats 4000000 in
set_option maxRecDepth 100000 in
theorem w_verify (l : Launch) (dC : Nat → ClassId) (dI : Nat → Nat → Nat) (sz : Nat) (h0 : Nat) (v_buffer : Value) (v_fetched : Value) (v_compared : Value) (v_maker : Value) (v_writer : Value) (i_madeDocuments : Int32) (i_fetchedSteps : Int32) (hp : Nat) (p_i_going : Int32) (p_i_writesLeft : Int32) (hd : Nat) (cD : ClassId) (a1 : Int32) (ho : Nat) (cO : ClassId) (fo : Nat → Int64)  : Met l y_L_verify k_L_verify ({ frames := 2, cells := 0, slots := 0, locals := 44 } : Room) (va_Pc [.ref h0, .int a1, .ref ho] (pc_E (dC, dI) [(h0, .inr (0, [.ref hd, v_buffer, v_fetched, v_compared, v_maker, v_writer, .ref hp, .int i_madeDocuments, .int i_fetchedSteps])), (hp, .inr (4, [.int 0, .int p_i_going, .int p_i_writesLeft])), (hd, .inl (cD, 8, .inr (.inr (.inr (.inr (fun _ => none)))))), (ho, .inl (cO, 1, .inr (.inl (fo))))] [(cD, .object R_D), (cO, .long)] sz)) (va_Qi (fun (r : Int32) (_ : Unit) => r = 0) (fun (_ : Unit) t => ∃ (g : Nat → Int64), (g 0 = (-1)) ∧ at_E (dC, dI) (va_A [(h0, .inr (0, [.ref hd, v_buffer, v_fetched, v_compared, v_maker, v_writer, .ref hp, .int i_madeDocuments, .int i_fetchedSteps])), (hp, .inr (4, [.int 0, .int p_i_going, .int p_i_writesLeft])), (hd, .inl (cD, 8, .inr (.inr (.inr (.inr (fun _ => none)))))), (ho, .inl (cO, 1, .inr (.inl (fo))))] sz) [(ho, .inl (cO, 1, .inr (.inl (g))))] [(cO, .long)] t) (va_A [(h0, .inr (0, [.ref hd, v_buffer, v_fetched, v_compared, v_maker, v_writer, .ref hp, .int i_madeDocuments, .int i_fetchedSteps])), (hp, .inr (4, [.int 0, .int p_i_going, .int p_i_writesLeft])), (hd, .inl (cD, 8, .inr (.inr (.inr (.inr (fun _ => none)))))), (ho, .inl (cO, 1, .inr (.inl (fo))))] sz)) 0 0 (va_A [(h0, .inr (0, [.ref hd, v_buffer, v_fetched, v_compared, v_maker, v_writer, .ref hp, .int i_madeDocuments, .int i_fetchedSteps])), (hp, .inr (4, [.int 0, .int p_i_going, .int p_i_writesLeft])), (hd, .inl (cD, 8, .inr (.inr (.inr (.inr (fun _ => none)))))), (ho, .inl (cO, 1, .inr (.inl (fo))))] sz) := by
  refine va_MetW (hh := [(0, 9, 12, 13)]) (cc := method_16_code) (maxL := 4) (ret := (some .int)) (by decide) rfl ?_
  intro p e s m args below meth c s₁ B hml hv
  obtain ⟨rfl, hsz, hP, hK, hD0, hN⟩ := hv
  have hx := B.exec
  have hb := B.bytes
  have hr := B.returns
  have hts := atoms_spec (ws := k_L_verify) B.pre
  have hw0 : ∀ w ∈ w0, w.before _ s = true := fun w h => hts w (List.mem_cons_of_mem _ h)
  have hown : s.vm.findClass R_L = some m.cls := findClass_of_methodNamed B.named
  have hlocks := B.notSynchronized
  subst hsz
  have hD := hD0.self (sz := s.heap.size)
  generalize hAe : va_A [(h0, .inr (0, [.ref hd, v_buffer, v_fetched, v_compared, v_maker, v_writer, .ref hp, .int i_madeDocuments, .int i_fetchedSteps])), (hp, .inr (4, [.int 0, .int p_i_going, .int p_i_writesLeft])), (hd, .inl (cD, 8, .inr (.inr (.inr (.inr (fun _ => none)))))), (ho, .inl (cO, 1, .inr (.inl (fo))))] s.heap.size = A at hD ⊢
  have hA : ∀ q : Nat, s.heap.size ≤ q → A q := fun q h => by rw [← hAe]; exact Or.inr h
  have hS : va_S A s.heap s.heap [] := va_S.rf
  have hP : va_P (dC, dI) vwCl [(h0, .inr (0, [.ref hd, v_buffer, v_fetched, v_compared, v_maker, v_writer, .ref hp, .int i_madeDocuments, .int i_fetchedSteps])), (hp, .inr (4, [.int 0, .int p_i_going, .int p_i_writesLeft])), (hd, .inl (cD, 8, .inr (.inr (.inr (.inr (fun _ => none)))))), (ho, .inl (cO, 1, .inr (.inl (fo))))] s.heap := hP
  have hl := lv_entry ([.ref h0, .int a1, .ref ho]) (n := 4) (Nat.le_of_ble_eq_true rfl)
  rw [lg_entry_eq]
  generalize (lg_sl ([.ref h0, .int a1, .ref ho]) ++ List.replicate (4 - (lg_sl ([.ref h0, .int a1, .ref ho])).length) Slot.unset).toArray = ls at hl ⊢
  have hl : lv_has ls 4 [(0, .ref h0), (1, .int a1), (2, .ref ho)] := hl
  refine lv_aload_n hx hb d_L_verify_0 rfl (lv_at hl 2 rfl) ?_
  refine lv_iconst (v := 0) hx hb d_L_verify_1 (by decide) ?_
  refine lv_aload_n hx hb d_L_verify_2 rfl (lv_at hl 0 rfl) ?_
  refine lv_iload_n hx hb d_L_verify_3 rfl (lv_at hl 1 rfl) ?_
  have hPc := hP.sub (ws' := [(h0, .inr (0, [.ref hd, v_buffer, v_fetched, v_compared, v_maker, v_writer, .ref hp, .int i_madeDocuments, .int i_fetchedSteps])), (hp, .inr (4, [.int 0, .int p_i_going, .int p_i_writesLeft])), (hd, .inl (cD, 8, .inr (.inr (.inr (.inr (fun _ => none))))))]) [0, 1, 2] rfl
  have hKc := hK.sub (tys' := [(cD, .object R_D)]) [0] rfl
  refine ps_i (va_runV (As := [.int a1]) (rest := [.int 0, .ref ho]) ⟨hx, hb, hml, hown, hw0⟩ (c_verify l dC dI h0 v_buffer v_fetched v_compared v_maker v_writer i_madeDocuments i_fetchedSteps hp p_i_going p_i_writesLeft hd cD a1) (cwV 1 hw0 (gd_V 316 317 318 111 319 rfl rfl rfl rfl rfl) rfl rfl rfl (by decide +kernel) ⟨by decide +kernel, by decide +kernel⟩) (prV_R hPc hKc hN (va_recv hKc hPc (ci := 0) (q0 := 0) rfl rfl)) rfl rfl hl.1 rfl (lv_room (Nat.le_of_ble_eq_true rfl)) d_L_verify_4 ⟨by decide +kernel, by decide +kernel⟩) (fun r_1 hr_1 => ?_)
  obtain rfl : r_1 = (-1) := hr_1
  refine lv_i2l (v := (-1)) hx hb d_L_verify_7 (by decide +kernel) ?_
  refine va_last hx hb hK hP hD hS 3 1 rfl rfl (by unfold vp_in; decide +kernel) d_L_verify_8 (fun H locs hP hD hS => ?_)
  replace hP : va_P (dC, dI) vwCl [(h0, .inr (0, [.ref hd, v_buffer, v_fetched, v_compared, v_maker, v_writer, .ref hp, .int i_madeDocuments, .int i_fetchedSteps])), (hp, .inr (4, [.int 0, .int p_i_going, .int p_i_writesLeft])), (hd, .inl (cD, 8, .inr (.inr (.inr (.inr (fun _ => none)))))), (ho, .inl (cO, 1, .inr (.inl (vp_updL (fo) (Int32.toNatClampNeg 0) ((-1))))))] H := hP
  replace hD : va_D A [(h0, .inr (0, [.ref hd, v_buffer, v_fetched, v_compared, v_maker, v_writer, .ref hp, .int i_madeDocuments, .int i_fetchedSteps])), (hp, .inr (4, [.int 0, .int p_i_going, .int p_i_writesLeft])), (hd, .inl (cD, 8, .inr (.inr (.inr (.inr (fun _ => none)))))), (ho, .inl (cO, 1, .inr (.inl (vp_updL (fo) (Int32.toNatClampNeg 0) ((-1))))))] := hD
  refine lv_goto (tgt := 15) hx hb d_L_verify_9 (by decide) ?_
  refine lv_iconst (v := 0) hx hb d_L_verify_15 (by decide) ?_
  have hP9 := hP.sub (ws' := [(ho, .inl (cO, 1, .inr (.inl ((vp_updL (fo) (Int32.toNatClampNeg 0) ((-1)))))))]) [3] rfl
  have hD9 := hD.sub (ws' := [(ho, .inl (cO, 1, .inr (.inl ((vp_updL (fo) (Int32.toNatClampNeg 0) ((-1)))))))]) [3] (by decide) rfl
  have hK9 := hK.sub (tys' := [(cO, .long)]) [1] rfl
  exact W.iret (v := 0) hx hb hr (fun t ht hW => ⟨⟨0, (), rfl, rfl, (vp_updL (fo) (Int32.toNatClampNeg 0) ((-1))), x_up0, by rw [ht]; exact hP9, va_K.moved hW.alike hK9, hD9⟩, hS.F ht⟩) hS.2.2 d_L_verify_16
set_option maxHeartbeats 4000000 in
set_option maxRecDepth 100000 in
theorem w_common (l : Launch) (dC : Nat → ClassId) (dI : Nat → Nat → Nat) (sz : Nat) (h0 : Nat) (v_buffer : Value) (v_fetched : Value) (v_compared : Value) (v_maker : Value) (v_writer : Value) (i_madeDocuments : Int32) (i_fetchedSteps : Int32) (hp : Nat) (p_i_going : Int32) (p_i_writesLeft : Int32) (hd : Nat) (cD : ClassId) (a1 : Int32) (a2 : Int32) (a3 : Int32) (a4 : Int32) (ho : Nat) (cO : ClassId) (fo : Nat → Int64)  : Met l y_L_common k_L_common ({ frames := 2, cells := 0, slots := 0, locals := 49 } : Room) (va_Pc [.ref h0, .int a1, .int a2, .int a3, .int a4, .ref ho] (pc_E (dC, dI) [(h0, .inr (0, [.ref hd, v_buffer, v_fetched, v_compared, v_maker, v_writer, .ref hp, .int i_madeDocuments, .int i_fetchedSteps])), (hp, .inr (4, [.int 0, .int p_i_going, .int p_i_writesLeft])), (hd, .inl (cD, 8, .inr (.inr (.inr (.inr (fun _ => none)))))), (ho, .inl (cO, 1, .inr (.inl (fo))))] [(cD, .object R_D), (cO, .long)] sz)) (va_Qi (fun (r : Int32) (_ : Unit) => r = 0) (fun (_ : Unit) t => ∃ (g : Nat → Int64), (g 0 = (-1)) ∧ at_E (dC, dI) (va_A [(h0, .inr (0, [.ref hd, v_buffer, v_fetched, v_compared, v_maker, v_writer, .ref hp, .int i_madeDocuments, .int i_fetchedSteps])), (hp, .inr (4, [.int 0, .int p_i_going, .int p_i_writesLeft])), (hd, .inl (cD, 8, .inr (.inr (.inr (.inr (fun _ => none)))))), (ho, .inl (cO, 1, .inr (.inl (fo))))] sz) [(ho, .inl (cO, 1, .inr (.inl (g))))] [(cO, .long)] t) (va_A [(h0, .inr (0, [.ref hd, v_buffer, v_fetched, v_compared, v_maker, v_writer, .ref hp, .int i_madeDocuments, .int i_fetchedSteps])), (hp, .inr (4, [.int 0, .int p_i_going, .int p_i_writesLeft])), (hd, .inl (cD, 8, .inr (.inr (.inr (.inr (fun _ => none)))))), (ho, .inl (cO, 1, .inr (.inl (fo))))] sz)) 0 0 (va_A [(h0, .inr (0, [.ref hd, v_buffer, v_fetched, v_compared, v_maker, v_writer, .ref hp, .int i_madeDocuments, .int i_fetchedSteps])), (hp, .inr (4, [.int 0, .int p_i_going, .int p_i_writesLeft])), (hd, .inl (cD, 8, .inr (.inr (.inr (.inr (fun _ => none)))))), (ho, .inl (cO, 1, .inr (.inl (fo))))] sz) := by
  refine va_MetW (hh := [(0, 14, 17, 13)]) (cc := method_17_code) (maxL := 7) (ret := (some .int)) (by decide) rfl ?_
  intro p e s m args below meth c s₁ B hml hv
  obtain ⟨rfl, hsz, hP, hK, hD0, hN⟩ := hv
  have hx := B.exec
  have hb := B.bytes
  have hr := B.returns
  have hts := atoms_spec (ws := k_L_common) B.pre
  have hw0 : ∀ w ∈ w0, w.before _ s = true := fun w h => hts w (List.mem_cons_of_mem _ h)
  have hown : s.vm.findClass R_L = some m.cls := findClass_of_methodNamed B.named
  have hlocks := B.notSynchronized
  subst hsz
  have hD := hD0.self (sz := s.heap.size)
  generalize hAe : va_A [(h0, .inr (0, [.ref hd, v_buffer, v_fetched, v_compared, v_maker, v_writer, .ref hp, .int i_madeDocuments, .int i_fetchedSteps])), (hp, .inr (4, [.int 0, .int p_i_going, .int p_i_writesLeft])), (hd, .inl (cD, 8, .inr (.inr (.inr (.inr (fun _ => none)))))), (ho, .inl (cO, 1, .inr (.inl (fo))))] s.heap.size = A at hD ⊢
  have hA : ∀ q : Nat, s.heap.size ≤ q → A q := fun q h => by rw [← hAe]; exact Or.inr h
  have hS : va_S A s.heap s.heap [] := va_S.rf
  have hP : va_P (dC, dI) vwCl [(h0, .inr (0, [.ref hd, v_buffer, v_fetched, v_compared, v_maker, v_writer, .ref hp, .int i_madeDocuments, .int i_fetchedSteps])), (hp, .inr (4, [.int 0, .int p_i_going, .int p_i_writesLeft])), (hd, .inl (cD, 8, .inr (.inr (.inr (.inr (fun _ => none)))))), (ho, .inl (cO, 1, .inr (.inl (fo))))] s.heap := hP
  have hl := lv_entry ([.ref h0, .int a1, .int a2, .int a3, .int a4, .ref ho]) (n := 7) (Nat.le_of_ble_eq_true rfl)
  rw [lg_entry_eq]
  generalize (lg_sl ([.ref h0, .int a1, .int a2, .int a3, .int a4, .ref ho]) ++ List.replicate (7 - (lg_sl ([.ref h0, .int a1, .int a2, .int a3, .int a4, .ref ho])).length) Slot.unset).toArray = ls at hl ⊢
  have hl : lv_has ls 7 [(0, .ref h0), (1, .int a1), (2, .int a2), (3, .int a3), (4, .int a4), (5, .ref ho)] := hl
  refine lv_aload hx hb d_L_common_0 (lv_at hl 5 rfl) ?_
  refine lv_iconst (v := 0) hx hb d_L_common_2 (by decide) ?_
  refine lv_aload_n hx hb d_L_common_3 rfl (lv_at hl 0 rfl) ?_
  refine lv_iload_n hx hb d_L_common_4 rfl (lv_at hl 1 rfl) ?_
  refine lv_iload_n hx hb d_L_common_5 rfl (lv_at hl 2 rfl) ?_
  refine lv_iload_n hx hb d_L_common_6 rfl (lv_at hl 3 rfl) ?_
  refine lv_iload hx hb d_L_common_7 (lv_at hl 4 rfl) ?_
  have hPc := hP.sub (ws' := [(h0, .inr (0, [.ref hd, v_buffer, v_fetched, v_compared, v_maker, v_writer, .ref hp, .int i_madeDocuments, .int i_fetchedSteps])), (hp, .inr (4, [.int 0, .int p_i_going, .int p_i_writesLeft])), (hd, .inl (cD, 8, .inr (.inr (.inr (.inr (fun _ => none))))))]) [0, 1, 2] rfl
  have hKc := hK.sub (tys' := [(cD, .object R_D)]) [0] rfl
  refine ps_i (va_runV (As := [.int a1, .int a2, .int a3, .int a4]) (rest := [.int 0, .ref ho]) ⟨hx, hb, hml, hown, hw0⟩ (c_common l dC dI h0 v_buffer v_fetched v_compared v_maker v_writer i_madeDocuments i_fetchedSteps hp p_i_going p_i_writesLeft hd cD a1 a2 a3 a4) (cwV 4 hw0 (gd_V 320 321 322 111 323 rfl rfl rfl rfl rfl) rfl rfl rfl (by decide +kernel) ⟨by decide +kernel, by decide +kernel⟩) (prV_R hPc hKc hN (va_recv hKc hPc (ci := 0) (q0 := 0) rfl rfl)) rfl rfl hl.1 rfl (lv_room (Nat.le_of_ble_eq_true rfl)) d_L_common_9 ⟨by decide +kernel, by decide +kernel⟩) (fun r_1 hr_1 => ?_)
  obtain rfl : r_1 = (-1) := hr_1
  refine lv_i2l (v := (-1)) hx hb d_L_common_12 (by decide +kernel) ?_
  refine va_last hx hb hK hP hD hS 3 1 rfl rfl (by unfold vp_in; decide +kernel) d_L_common_13 (fun H locs hP hD hS => ?_)
  replace hP : va_P (dC, dI) vwCl [(h0, .inr (0, [.ref hd, v_buffer, v_fetched, v_compared, v_maker, v_writer, .ref hp, .int i_madeDocuments, .int i_fetchedSteps])), (hp, .inr (4, [.int 0, .int p_i_going, .int p_i_writesLeft])), (hd, .inl (cD, 8, .inr (.inr (.inr (.inr (fun _ => none)))))), (ho, .inl (cO, 1, .inr (.inl (vp_updL (fo) (Int32.toNatClampNeg 0) ((-1))))))] H := hP
  replace hD : va_D A [(h0, .inr (0, [.ref hd, v_buffer, v_fetched, v_compared, v_maker, v_writer, .ref hp, .int i_madeDocuments, .int i_fetchedSteps])), (hp, .inr (4, [.int 0, .int p_i_going, .int p_i_writesLeft])), (hd, .inl (cD, 8, .inr (.inr (.inr (.inr (fun _ => none)))))), (ho, .inl (cO, 1, .inr (.inl (vp_updL (fo) (Int32.toNatClampNeg 0) ((-1))))))] := hD
  refine lv_goto (tgt := 21) hx hb d_L_common_14 (by decide) ?_
  refine lv_iconst (v := 0) hx hb d_L_common_21 (by decide) ?_
  have hP9 := hP.sub (ws' := [(ho, .inl (cO, 1, .inr (.inl ((vp_updL (fo) (Int32.toNatClampNeg 0) ((-1)))))))]) [3] rfl
  have hD9 := hD.sub (ws' := [(ho, .inl (cO, 1, .inr (.inl ((vp_updL (fo) (Int32.toNatClampNeg 0) ((-1)))))))]) [3] (by decide) rfl
  have hK9 := hK.sub (tys' := [(cO, .long)]) [1] rfl
  exact W.iret (v := 0) hx hb hr (fun t ht hW => ⟨⟨0, (), rfl, rfl, (vp_updL (fo) (Int32.toNatClampNeg 0) ((-1))), x_up0, by rw [ht]; exact hP9, va_K.moved hW.alike hK9, hD9⟩, hS.F ht⟩) hS.2.2 d_L_common_22
set_option maxHeartbeats 4000000 in
set_option maxRecDepth 100000 in
theorem w_freeBlocks (l : Launch) (dC : Nat → ClassId) (dI : Nat → Nat → Nat) (sz : Nat) (h0 : Nat) (v_buffer : Value) (v_fetched : Value) (v_compared : Value) (v_maker : Value) (v_writer : Value) (i_madeDocuments : Int32) (i_fetchedSteps : Int32) (hp : Nat) (p_i_going : Int32) (p_i_writesLeft : Int32) (hd : Nat) (cD : ClassId) (ho : Nat) (cO : ClassId) (fo : Nat → Int64)  : Met l y_L_freeBlocks k_L_freeBlocks ({ frames := 2, cells := 0, slots := 0, locals := 45 } : Room) (va_Pc [.ref h0, .ref ho] (pc_E (dC, dI) [(h0, .inr (0, [.ref hd, v_buffer, v_fetched, v_compared, v_maker, v_writer, .ref hp, .int i_madeDocuments, .int i_fetchedSteps])), (hp, .inr (4, [.int 0, .int p_i_going, .int p_i_writesLeft])), (hd, .inl (cD, 8, .inr (.inr (.inr (.inr (fun _ => none)))))), (ho, .inl (cO, 1, .inr (.inl (fo))))] [(cD, .object R_D), (cO, .long)] sz)) (va_Qi (fun (r : Int32) (_ : Unit) => r = 0) (fun (_ : Unit) t => ∃ (g : Nat → Int64), (g 0 = 512) ∧ at_E (dC, dI) (va_A [(h0, .inr (0, [.ref hd, v_buffer, v_fetched, v_compared, v_maker, v_writer, .ref hp, .int i_madeDocuments, .int i_fetchedSteps])), (hp, .inr (4, [.int 0, .int p_i_going, .int p_i_writesLeft])), (hd, .inl (cD, 8, .inr (.inr (.inr (.inr (fun _ => none)))))), (ho, .inl (cO, 1, .inr (.inl (fo))))] sz) [(ho, .inl (cO, 1, .inr (.inl (g))))] [(cO, .long)] t) (va_A [(h0, .inr (0, [.ref hd, v_buffer, v_fetched, v_compared, v_maker, v_writer, .ref hp, .int i_madeDocuments, .int i_fetchedSteps])), (hp, .inr (4, [.int 0, .int p_i_going, .int p_i_writesLeft])), (hd, .inl (cD, 8, .inr (.inr (.inr (.inr (fun _ => none)))))), (ho, .inl (cO, 1, .inr (.inl (fo))))] sz)) 0 0 (va_A [(h0, .inr (0, [.ref hd, v_buffer, v_fetched, v_compared, v_maker, v_writer, .ref hp, .int i_madeDocuments, .int i_fetchedSteps])), (hp, .inr (4, [.int 0, .int p_i_going, .int p_i_writesLeft])), (hd, .inl (cD, 8, .inr (.inr (.inr (.inr (fun _ => none)))))), (ho, .inl (cO, 1, .inr (.inl (fo))))] sz) := by
  refine va_MetW (hh := [(0, 8, 11, 13)]) (cc := method_18_code) (maxL := 3) (ret := (some .int)) (by decide) rfl ?_
  intro p e s m args below meth c s₁ B hml hv
  obtain ⟨rfl, hsz, hP, hK, hD0, hN⟩ := hv
  have hx := B.exec
  have hb := B.bytes
  have hr := B.returns
  have hts := atoms_spec (ws := k_L_freeBlocks) B.pre
  have hw0 : ∀ w ∈ w0, w.before _ s = true := fun w h => hts w (List.mem_cons_of_mem _ h)
  have hown : s.vm.findClass R_L = some m.cls := findClass_of_methodNamed B.named
  have hlocks := B.notSynchronized
  subst hsz
  have hD := hD0.self (sz := s.heap.size)
  generalize hAe : va_A [(h0, .inr (0, [.ref hd, v_buffer, v_fetched, v_compared, v_maker, v_writer, .ref hp, .int i_madeDocuments, .int i_fetchedSteps])), (hp, .inr (4, [.int 0, .int p_i_going, .int p_i_writesLeft])), (hd, .inl (cD, 8, .inr (.inr (.inr (.inr (fun _ => none)))))), (ho, .inl (cO, 1, .inr (.inl (fo))))] s.heap.size = A at hD ⊢
  have hA : ∀ q : Nat, s.heap.size ≤ q → A q := fun q h => by rw [← hAe]; exact Or.inr h
  have hS : va_S A s.heap s.heap [] := va_S.rf
  have hP : va_P (dC, dI) vwCl [(h0, .inr (0, [.ref hd, v_buffer, v_fetched, v_compared, v_maker, v_writer, .ref hp, .int i_madeDocuments, .int i_fetchedSteps])), (hp, .inr (4, [.int 0, .int p_i_going, .int p_i_writesLeft])), (hd, .inl (cD, 8, .inr (.inr (.inr (.inr (fun _ => none)))))), (ho, .inl (cO, 1, .inr (.inl (fo))))] s.heap := hP
  have hl := lv_entry ([.ref h0, .ref ho]) (n := 3) (Nat.le_of_ble_eq_true rfl)
  rw [lg_entry_eq]
  generalize (lg_sl ([.ref h0, .ref ho]) ++ List.replicate (3 - (lg_sl ([.ref h0, .ref ho])).length) Slot.unset).toArray = ls at hl ⊢
  have hl : lv_has ls 3 [(0, .ref h0), (1, .ref ho)] := hl
  refine lv_aload_n hx hb d_L_freeBlocks_0 rfl (lv_at hl 1 rfl) ?_
  refine lv_iconst (v := 0) hx hb d_L_freeBlocks_1 (by decide) ?_
  refine lv_aload_n hx hb d_L_freeBlocks_2 rfl (lv_at hl 0 rfl) ?_
  have hPc := hP.sub (ws' := [(h0, .inr (0, [.ref hd, v_buffer, v_fetched, v_compared, v_maker, v_writer, .ref hp, .int i_madeDocuments, .int i_fetchedSteps])), (hp, .inr (4, [.int 0, .int p_i_going, .int p_i_writesLeft])), (hd, .inl (cD, 8, .inr (.inr (.inr (.inr (fun _ => none))))))]) [0, 1, 2] rfl
  have hKc := hK.sub (tys' := [(cD, .object R_D)]) [0] rfl
  refine ps_i (va_runV (As := []) (rest := [.int 0, .ref ho]) ⟨hx, hb, hml, hown, hw0⟩ (c_freeBlocks l dC dI h0 v_buffer v_fetched v_compared v_maker v_writer i_madeDocuments i_fetchedSteps hp p_i_going p_i_writesLeft hd cD) (cwV 0 hw0 (gd_V 324 325 326 111 327 rfl rfl rfl rfl rfl) rfl rfl rfl (by decide +kernel) ⟨by decide +kernel, by decide +kernel⟩) (prV_R hPc hKc hN (va_recv hKc hPc (ci := 0) (q0 := 0) rfl rfl)) rfl rfl hl.1 rfl (lv_room (Nat.le_of_ble_eq_true rfl)) d_L_freeBlocks_3 ⟨by decide +kernel, by decide +kernel⟩) (fun r_1 hr_1 => ?_)
  obtain rfl : r_1 = 512 := hr_1
  refine lv_i2l (v := 512) hx hb d_L_freeBlocks_6 (by decide +kernel) ?_
  refine va_last hx hb hK hP hD hS 3 1 rfl rfl (by unfold vp_in; decide +kernel) d_L_freeBlocks_7 (fun H locs hP hD hS => ?_)
  replace hP : va_P (dC, dI) vwCl [(h0, .inr (0, [.ref hd, v_buffer, v_fetched, v_compared, v_maker, v_writer, .ref hp, .int i_madeDocuments, .int i_fetchedSteps])), (hp, .inr (4, [.int 0, .int p_i_going, .int p_i_writesLeft])), (hd, .inl (cD, 8, .inr (.inr (.inr (.inr (fun _ => none)))))), (ho, .inl (cO, 1, .inr (.inl (vp_updL (fo) (Int32.toNatClampNeg 0) (512)))))] H := hP
  replace hD : va_D A [(h0, .inr (0, [.ref hd, v_buffer, v_fetched, v_compared, v_maker, v_writer, .ref hp, .int i_madeDocuments, .int i_fetchedSteps])), (hp, .inr (4, [.int 0, .int p_i_going, .int p_i_writesLeft])), (hd, .inl (cD, 8, .inr (.inr (.inr (.inr (fun _ => none)))))), (ho, .inl (cO, 1, .inr (.inl (vp_updL (fo) (Int32.toNatClampNeg 0) (512)))))] := hD
  refine lv_goto (tgt := 14) hx hb d_L_freeBlocks_8 (by decide) ?_
  refine lv_iconst (v := 0) hx hb d_L_freeBlocks_14 (by decide) ?_
  have hP9 := hP.sub (ws' := [(ho, .inl (cO, 1, .inr (.inl ((vp_updL (fo) (Int32.toNatClampNeg 0) (512))))))]) [3] rfl
  have hD9 := hD.sub (ws' := [(ho, .inl (cO, 1, .inr (.inl ((vp_updL (fo) (Int32.toNatClampNeg 0) (512))))))]) [3] (by decide) rfl
  have hK9 := hK.sub (tys' := [(cO, .long)]) [1] rfl
  exact W.iret (v := 0) hx hb hr (fun t ht hW => ⟨⟨0, (), rfl, rfl, (vp_updL (fo) (Int32.toNatClampNeg 0) (512)), x_up0, by rw [ht]; exact hP9, va_K.moved hW.alike hK9, hD9⟩, hS.F ht⟩) hS.2.2 d_L_freeBlocks_15
set_option maxHeartbeats 4000000 in
set_option maxRecDepth 100000 in
theorem w_cutAfter_T (l : Launch) (dC : Nat → ClassId) (dI : Nat → Nat → Nat) (sz : Nat) (h0 : Nat) (v_documents : Value) (v_buffer : Value) (v_fetched : Value) (v_compared : Value) (v_maker : Value) (v_writer : Value) (i_madeDocuments : Int32) (i_fetchedSteps : Int32) (hp : Nat) (p_i_going : Int32) (p_i_writesLeft : Int32) (a1 : Int32) (ho : Nat) (cO : ClassId) (fo : Nat → Int64) (h1 : ¬ a1 < 0) : Met l y_L_cutAfter k_L_cutAfter ({ frames := 2, cells := 0, slots := 0, locals := 42 } : Room) (va_Pc [.ref h0, .int a1, .ref ho] (pc_E (dC, dI) [(h0, .inr (0, [v_documents, v_buffer, v_fetched, v_compared, v_maker, v_writer, .ref hp, .int i_madeDocuments, .int i_fetchedSteps])), (hp, .inr (4, [.int 0, .int p_i_going, .int p_i_writesLeft])), (ho, .inl (cO, 1, .inr (.inl (fo))))] [(cO, .long)] sz)) (va_Qi (fun (r : Int32) (_ : Unit) => r = 0) (fun (_ : Unit) t => ∃ (g : Nat → Int64), (g 0 = 1) ∧ at_E (dC, dI) (va_A [(h0, .inr (0, [v_documents, v_buffer, v_fetched, v_compared, v_maker, v_writer, .ref hp, .int i_madeDocuments, .int i_fetchedSteps])), (hp, .inr (4, [.int 0, .int p_i_going, .int p_i_writesLeft])), (ho, .inl (cO, 1, .inr (.inl (fo))))] sz) [(ho, .inl (cO, 1, .inr (.inl (g))))] [(cO, .long)] t) (va_A [(h0, .inr (0, [v_documents, v_buffer, v_fetched, v_compared, v_maker, v_writer, .ref hp, .int i_madeDocuments, .int i_fetchedSteps])), (hp, .inr (4, [.int 0, .int p_i_going, .int p_i_writesLeft])), (ho, .inl (cO, 1, .inr (.inl (fo))))] sz)) 0 0 (va_A [(h0, .inr (0, [v_documents, v_buffer, v_fetched, v_compared, v_maker, v_writer, .ref hp, .int i_madeDocuments, .int i_fetchedSteps])), (hp, .inr (4, [.int 0, .int p_i_going, .int p_i_writesLeft])), (ho, .inl (cO, 1, .inr (.inl (fo))))] sz) := by
  refine va_MetW (hh := [(0, 16, 19, 13)]) (cc := method_19_code) (maxL := 4) (ret := (some .int)) (by decide) rfl ?_
  intro p e s m args below meth c s₁ B hml hv
  obtain ⟨rfl, hsz, hP, hK, hD0, hN⟩ := hv
  have hx := B.exec
  have hb := B.bytes
  have hr := B.returns
  have hts := atoms_spec (ws := k_L_cutAfter) B.pre
  have hw0 : ∀ w ∈ w0, w.before _ s = true := fun w h => hts w (List.mem_cons_of_mem _ h)
  have hown : s.vm.findClass R_L = some m.cls := findClass_of_methodNamed B.named
  have hlocks := B.notSynchronized
  subst hsz
  have hD := hD0.self (sz := s.heap.size)
  generalize hAe : va_A [(h0, .inr (0, [v_documents, v_buffer, v_fetched, v_compared, v_maker, v_writer, .ref hp, .int i_madeDocuments, .int i_fetchedSteps])), (hp, .inr (4, [.int 0, .int p_i_going, .int p_i_writesLeft])), (ho, .inl (cO, 1, .inr (.inl (fo))))] s.heap.size = A at hD ⊢
  have hA : ∀ q : Nat, s.heap.size ≤ q → A q := fun q h => by rw [← hAe]; exact Or.inr h
  have hS : va_S A s.heap s.heap [] := va_S.rf
  have hP : va_P (dC, dI) vwCl [(h0, .inr (0, [v_documents, v_buffer, v_fetched, v_compared, v_maker, v_writer, .ref hp, .int i_madeDocuments, .int i_fetchedSteps])), (hp, .inr (4, [.int 0, .int p_i_going, .int p_i_writesLeft])), (ho, .inl (cO, 1, .inr (.inl (fo))))] s.heap := hP
  have hl := lv_entry ([.ref h0, .int a1, .ref ho]) (n := 4) (Nat.le_of_ble_eq_true rfl)
  rw [lg_entry_eq]
  generalize (lg_sl ([.ref h0, .int a1, .ref ho]) ++ List.replicate (4 - (lg_sl ([.ref h0, .int a1, .ref ho])).length) Slot.unset).toArray = ls at hl ⊢
  have hl : lv_has ls 4 [(0, .ref h0), (1, .int a1), (2, .ref ho)] := hl
  refine lv_aload_n hx hb d_L_cutAfter_0 rfl (lv_at hl 2 rfl) ?_
  refine lv_iconst (v := 0) hx hb d_L_cutAfter_1 (by decide) ?_
  refine lv_aload_n hx hb d_L_cutAfter_2 rfl (lv_at hl 0 rfl) ?_
  refine lv_iload_n hx hb d_L_cutAfter_3 rfl (lv_at hl 1 rfl) ?_
  have hPc := hP.sub (ws' := [(h0, .inr (0, [v_documents, v_buffer, v_fetched, v_compared, v_maker, v_writer, .ref hp, .int i_madeDocuments, .int i_fetchedSteps])), (hp, .inr (4, [.int 0, .int p_i_going, .int p_i_writesLeft]))]) [0, 1] rfl
  have hKc := hK.sub (tys' := []) [] rfl
  have hDc := hD.sub (ws' := [(h0, .inr (0, [v_documents, v_buffer, v_fetched, v_compared, v_maker, v_writer, .ref hp, .int i_madeDocuments, .int i_fetchedSteps])), (hp, .inr (4, [.int 0, .int p_i_going, .int p_i_writesLeft]))]) [0, 1] (by decide) rfl
  have hFc := va_free (wc := [(h0, .inr (0, [v_documents, v_buffer, v_fetched, v_compared, v_maker, v_writer, .ref hp, .int i_madeDocuments, .int i_fetchedSteps])), (hp, .inr (4, [.int 0, .int p_i_going, .int p_i_writesLeft]))]) hD hS hA [0, 1] rfl
  refine va_calli (va_runV (As := [.int a1]) (rest := [.int 0, .ref ho]) ⟨hx, hb, hml, hown, hw0⟩ (c_cutAfter_T l dC dI s.heap.size h0 v_documents v_buffer v_fetched v_compared v_maker v_writer i_madeDocuments i_fetchedSteps hp p_i_going p_i_writesLeft a1 (by first | assumption | decide | omega)) (cwV 1 hw0 (gd_V 328 329 330 111 331 rfl rfl rfl rfl rfl) rfl rfl rfl (by decide +kernel) ⟨by decide +kernel, by decide +kernel⟩) (prV_E hPc hKc hDc hN (va_recv hKc hPc (ci := 0) (q0 := 0) rfl rfl)) rfl rfl hl.1 rfl (lv_room (Nat.le_of_ble_eq_true rfl)) d_L_cutAfter_4 ⟨by decide +kernel, by decide +kernel⟩) hS (fun q _ h => hFc q h) hFc (fun r_1 u t H1 locs ht hvm hw hB hz1 hk1 hS => ?_)
  obtain ⟨hP1, hK1, hD1⟩ := hB
  rw [ht] at hP1
  have hK1 := va_K.moved hvm.symm hK1
  try dsimp only at hw
  obtain ⟨hP, hD⟩ := va_join (wr := [(ho, .inl (cO, 1, .inr (.inl (fo))))]) (w1 := []) hP hD [0, 1] [2] rfl rfl (by decide) (by decide) hk1 hFc hP1 hD1
  generalize H1 = H at hP hS ⊢
  replace hP : va_P (dC, dI) vwCl [(ho, .inl (cO, 1, .inr (.inl (fo))))] H := hP
  replace hD : va_D A [(ho, .inl (cO, 1, .inr (.inl (fo))))] := hD
  replace hK : va_K (dC, dI) vwCl [(cO, .long)] s := hK
  obtain rfl : r_1 = 1 := hw
  refine lv_if_eq (tgt := 14) hx hb d_L_cutAfter_7 (by decide) (fun h9 => absurd h9 (by decide +kernel)) (fun _ => ?_)
  refine lv_lconst (v := 1) hx hb d_L_cutAfter_10 (by decide) ?_
  refine lv_goto (tgt := 15) hx hb d_L_cutAfter_11 (by decide) ?_
  refine va_last hx hb hK hP hD hS 0 0 rfl rfl (by unfold vp_in; decide +kernel) d_L_cutAfter_15 (fun H locs hP hD hS => ?_)
  replace hP : va_P (dC, dI) vwCl [(ho, .inl (cO, 1, .inr (.inl (vp_updL (fo) (Int32.toNatClampNeg 0) (1)))))] H := hP
  replace hD : va_D A [(ho, .inl (cO, 1, .inr (.inl (vp_updL (fo) (Int32.toNatClampNeg 0) (1)))))] := hD
  refine lv_goto (tgt := 22) hx hb d_L_cutAfter_16 (by decide) ?_
  refine lv_iconst (v := 0) hx hb d_L_cutAfter_22 (by decide) ?_
  have hP9 := hP.sub (ws' := [(ho, .inl (cO, 1, .inr (.inl ((vp_updL (fo) (Int32.toNatClampNeg 0) (1))))))]) [0] rfl
  have hD9 := hD.sub (ws' := [(ho, .inl (cO, 1, .inr (.inl ((vp_updL (fo) (Int32.toNatClampNeg 0) (1))))))]) [0] (by decide) rfl
  have hK9 := hK.sub (tys' := [(cO, .long)]) [0] rfl
  exact W.iret (v := 0) hx hb hr (fun t ht hW => ⟨⟨0, (), rfl, rfl, (vp_updL (fo) (Int32.toNatClampNeg 0) (1)), x_up0, by rw [ht]; exact hP9, va_K.moved hW.alike hK9, hD9⟩, hS.F ht⟩) hS.2.2 d_L_cutAfter_23
set_option maxHeartbeats 4000000 in
set_option maxRecDepth 100000 in
theorem w_cutAfter_F (l : Launch) (dC : Nat → ClassId) (dI : Nat → Nat → Nat) (sz : Nat) (h0 : Nat) (v_documents : Value) (v_buffer : Value) (v_fetched : Value) (v_compared : Value) (v_maker : Value) (v_writer : Value) (i_madeDocuments : Int32) (i_fetchedSteps : Int32) (hp : Nat) (p_i_going : Int32) (p_i_writesLeft : Int32) (a1 : Int32) (ho : Nat) (cO : ClassId) (fo : Nat → Int64) (h1 : a1 < 0) : Met l y_L_cutAfter k_L_cutAfter ({ frames := 2, cells := 0, slots := 0, locals := 41 } : Room) (va_Pc [.ref h0, .int a1, .ref ho] (pc_E (dC, dI) [(h0, .inr (0, [v_documents, v_buffer, v_fetched, v_compared, v_maker, v_writer, .ref hp, .int i_madeDocuments, .int i_fetchedSteps])), (hp, .inr (4, [.int 0, .int p_i_going, .int p_i_writesLeft])), (ho, .inl (cO, 1, .inr (.inl (fo))))] [(cO, .long)] sz)) (va_Qi (fun (r : Int32) (_ : Unit) => r = 0) (fun (_ : Unit) t => ∃ (g : Nat → Int64), (g 0 = 0) ∧ at_E (dC, dI) (va_A [(h0, .inr (0, [v_documents, v_buffer, v_fetched, v_compared, v_maker, v_writer, .ref hp, .int i_madeDocuments, .int i_fetchedSteps])), (hp, .inr (4, [.int 0, .int p_i_going, .int p_i_writesLeft])), (ho, .inl (cO, 1, .inr (.inl (fo))))] sz) [(ho, .inl (cO, 1, .inr (.inl (g))))] [(cO, .long)] t) (va_A [(h0, .inr (0, [v_documents, v_buffer, v_fetched, v_compared, v_maker, v_writer, .ref hp, .int i_madeDocuments, .int i_fetchedSteps])), (hp, .inr (4, [.int 0, .int p_i_going, .int p_i_writesLeft])), (ho, .inl (cO, 1, .inr (.inl (fo))))] sz)) 0 0 (va_A [(h0, .inr (0, [v_documents, v_buffer, v_fetched, v_compared, v_maker, v_writer, .ref hp, .int i_madeDocuments, .int i_fetchedSteps])), (hp, .inr (4, [.int 0, .int p_i_going, .int p_i_writesLeft])), (ho, .inl (cO, 1, .inr (.inl (fo))))] sz) := by
  refine va_MetW (hh := [(0, 16, 19, 13)]) (cc := method_19_code) (maxL := 4) (ret := (some .int)) (by decide) rfl ?_
  intro p e s m args below meth c s₁ B hml hv
  obtain ⟨rfl, hsz, hP, hK, hD0, hN⟩ := hv
  have hx := B.exec
  have hb := B.bytes
  have hr := B.returns
  have hts := atoms_spec (ws := k_L_cutAfter) B.pre
  have hw0 : ∀ w ∈ w0, w.before _ s = true := fun w h => hts w (List.mem_cons_of_mem _ h)
  have hown : s.vm.findClass R_L = some m.cls := findClass_of_methodNamed B.named
  have hlocks := B.notSynchronized
  subst hsz
  have hD := hD0.self (sz := s.heap.size)
  generalize hAe : va_A [(h0, .inr (0, [v_documents, v_buffer, v_fetched, v_compared, v_maker, v_writer, .ref hp, .int i_madeDocuments, .int i_fetchedSteps])), (hp, .inr (4, [.int 0, .int p_i_going, .int p_i_writesLeft])), (ho, .inl (cO, 1, .inr (.inl (fo))))] s.heap.size = A at hD ⊢
  have hA : ∀ q : Nat, s.heap.size ≤ q → A q := fun q h => by rw [← hAe]; exact Or.inr h
  have hS : va_S A s.heap s.heap [] := va_S.rf
  have hP : va_P (dC, dI) vwCl [(h0, .inr (0, [v_documents, v_buffer, v_fetched, v_compared, v_maker, v_writer, .ref hp, .int i_madeDocuments, .int i_fetchedSteps])), (hp, .inr (4, [.int 0, .int p_i_going, .int p_i_writesLeft])), (ho, .inl (cO, 1, .inr (.inl (fo))))] s.heap := hP
  have hl := lv_entry ([.ref h0, .int a1, .ref ho]) (n := 4) (Nat.le_of_ble_eq_true rfl)
  rw [lg_entry_eq]
  generalize (lg_sl ([.ref h0, .int a1, .ref ho]) ++ List.replicate (4 - (lg_sl ([.ref h0, .int a1, .ref ho])).length) Slot.unset).toArray = ls at hl ⊢
  have hl : lv_has ls 4 [(0, .ref h0), (1, .int a1), (2, .ref ho)] := hl
  refine lv_aload_n hx hb d_L_cutAfter_0 rfl (lv_at hl 2 rfl) ?_
  refine lv_iconst (v := 0) hx hb d_L_cutAfter_1 (by decide) ?_
  refine lv_aload_n hx hb d_L_cutAfter_2 rfl (lv_at hl 0 rfl) ?_
  refine lv_iload_n hx hb d_L_cutAfter_3 rfl (lv_at hl 1 rfl) ?_
  have hPc := hP.sub (ws' := [(h0, .inr (0, [v_documents, v_buffer, v_fetched, v_compared, v_maker, v_writer, .ref hp, .int i_madeDocuments, .int i_fetchedSteps])), (hp, .inr (4, [.int 0, .int p_i_going, .int p_i_writesLeft]))]) [0, 1] rfl
  have hKc := hK.sub (tys' := []) [] rfl
  refine ps_i (va_runV (As := [.int a1]) (rest := [.int 0, .ref ho]) ⟨hx, hb, hml, hown, hw0⟩ (c_cutAfter_F l dC dI h0 v_documents v_buffer v_fetched v_compared v_maker v_writer i_madeDocuments i_fetchedSteps hp p_i_going p_i_writesLeft a1 (by first | assumption | decide | omega)) (cwV 1 hw0 (gd_V 328 329 330 111 331 rfl rfl rfl rfl rfl) rfl rfl rfl (by decide +kernel) ⟨by decide +kernel, by decide +kernel⟩) (prV_R hPc hKc hN (va_recv hKc hPc (ci := 0) (q0 := 0) rfl rfl)) rfl rfl hl.1 rfl (lv_room (Nat.le_of_ble_eq_true rfl)) d_L_cutAfter_4 ⟨by decide +kernel, by decide +kernel⟩) (fun r_1 hr_1 => ?_)
  obtain rfl : r_1 = 0 := hr_1
  refine lv_if_eq (tgt := 14) hx hb d_L_cutAfter_7 (by decide) (fun _ => ?_) (fun h9 => absurd h9 (by decide +kernel))
  refine lv_lconst (v := 0) hx hb d_L_cutAfter_14 (by decide) ?_
  refine va_last hx hb hK hP hD hS 2 0 rfl rfl (by unfold vp_in; decide +kernel) d_L_cutAfter_15 (fun H locs hP hD hS => ?_)
  replace hP : va_P (dC, dI) vwCl [(h0, .inr (0, [v_documents, v_buffer, v_fetched, v_compared, v_maker, v_writer, .ref hp, .int i_madeDocuments, .int i_fetchedSteps])), (hp, .inr (4, [.int 0, .int p_i_going, .int p_i_writesLeft])), (ho, .inl (cO, 1, .inr (.inl (vp_updL (fo) (Int32.toNatClampNeg 0) (0)))))] H := hP
  replace hD : va_D A [(h0, .inr (0, [v_documents, v_buffer, v_fetched, v_compared, v_maker, v_writer, .ref hp, .int i_madeDocuments, .int i_fetchedSteps])), (hp, .inr (4, [.int 0, .int p_i_going, .int p_i_writesLeft])), (ho, .inl (cO, 1, .inr (.inl (vp_updL (fo) (Int32.toNatClampNeg 0) (0)))))] := hD
  refine lv_goto (tgt := 22) hx hb d_L_cutAfter_16 (by decide) ?_
  refine lv_iconst (v := 0) hx hb d_L_cutAfter_22 (by decide) ?_
  have hP9 := hP.sub (ws' := [(ho, .inl (cO, 1, .inr (.inl ((vp_updL (fo) (Int32.toNatClampNeg 0) (0))))))]) [2] rfl
  have hD9 := hD.sub (ws' := [(ho, .inl (cO, 1, .inr (.inl ((vp_updL (fo) (Int32.toNatClampNeg 0) (0))))))]) [2] (by decide) rfl
  have hK9 := hK.sub (tys' := [(cO, .long)]) [0] rfl
  exact W.iret (v := 0) hx hb hr (fun t ht hW => ⟨⟨0, (), rfl, rfl, (vp_updL (fo) (Int32.toNatClampNeg 0) (0)), x_up0, by rw [ht]; exact hP9, va_K.moved hW.alike hK9, hD9⟩, hS.F ht⟩) hS.2.2 d_L_cutAfter_23
