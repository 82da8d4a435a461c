section
set_option maxHeartbeats 4000000 in
set_option maxRecDepth 100000 in
theorem x_needPower (l : Launch) (hl9 : l.stackTraces = false) (dC : Nat → ClassId) (dI : Nat → Nat → Nat) (sz : Nat) (h0 : Nat) (v_documents : Value) (v_buffer : Value) (v_fetched : Value) (v_compared : Value) (v_maker : Value) (v_writer : Value) (i_madeDocuments : Int32) (i_fetchedSteps : Int32) (hp : Nat) (p_i_going : Int32) (p_i_writesLeft : Int32)  : vx_Met l y_K_needPower k_K_needPower ({ frames := 6, cells := 1, slots := 6, locals := 85 } : Room) (va_Pc [.ref h0] (fun U => pc_E (dC, dI) [(h0, .inr (0, [v_documents, v_buffer, v_fetched, v_compared, v_maker, v_writer, .ref hp, .int i_madeDocuments, .int i_fetchedSteps])), (hp, .inr (4, [.int 1, .int p_i_going, .int p_i_writesLeft]))] [] sz U ∧ tw_ok U)) (va_Qv (fun (_ : Unit) => False) (fun _ _ => True) (va_A [(h0, .inr (0, [v_documents, v_buffer, v_fetched, v_compared, v_maker, v_writer, .ref hp, .int i_madeDocuments, .int i_fetchedSteps])), (hp, .inr (4, [.int 1, .int p_i_going, .int p_i_writesLeft]))] sz)) (vx_X (fun _ : Unit => True) (fun E _ t => E = "java/lang/IllegalStateException" ∧ at_E (dC, dI) (va_A [(h0, .inr (0, [v_documents, v_buffer, v_fetched, v_compared, v_maker, v_writer, .ref hp, .int i_madeDocuments, .int i_fetchedSteps])), (hp, .inr (4, [.int 1, .int p_i_going, .int p_i_writesLeft]))] sz) [(h0, .inr (0, [v_documents, v_buffer, v_fetched, v_compared, v_maker, v_writer, .ref hp, .int i_madeDocuments, .int i_fetchedSteps])), (hp, .inr (4, [.int 1, .int p_i_going, .int p_i_writesLeft]))] [] t) (va_A [(h0, .inr (0, [v_documents, v_buffer, v_fetched, v_compared, v_maker, v_writer, .ref hp, .int i_madeDocuments, .int i_fetchedSteps])), (hp, .inr (4, [.int 1, .int p_i_going, .int p_i_writesLeft]))] sz)) 1 6 (va_A [(h0, .inr (0, [v_documents, v_buffer, v_fetched, v_compared, v_maker, v_writer, .ref hp, .int i_madeDocuments, .int i_fetchedSteps])), (hp, .inr (4, [.int 1, .int p_i_going, .int p_i_writesLeft]))] sz) := by
  refine vx_ofW (cc := prog_1_method_21_code) (maxL := 1) (ret := none) (by decide) rfl ?_
  intro p e s m args below meth c s₁ B hml htab hv
  obtain ⟨rfl, ⟨hsz, hP, hK, hD0, hN⟩, hTw⟩ := hv
  have hx := B.exec
  have hb := B.bytes
  have hr := B.returns
  have hts := atoms_spec (ws := k_K_needPower) B.pre
  have hw0 : ∀ w ∈ w0, w.before _ s = true := fun w h => hts w (List.mem_cons_of_mem _ h)
  have hown : s.vm.findClass R_K = some m.cls := findClass_of_methodNamed B.named
  have hlocks := B.notSynchronized
  subst hsz
  have hD := hD0.self (sz := s.heap.size)
  have hTwA := tw_A hTw hP
  generalize hAe : va_A [(h0, .inr (0, [v_documents, v_buffer, v_fetched, v_compared, v_maker, v_writer, .ref hp, .int i_madeDocuments, .int i_fetchedSteps])), (hp, .inr (4, [.int 1, .int p_i_going, .int p_i_writesLeft]))] s.heap.size = A at hD hTwA ⊢
  have hA : ∀ q : Nat, s.heap.size ≤ q → A q := fun q h => by rw [← hAe]; exact Or.inr h
  have hS : va_S A s.heap s.heap [] := va_S.rf
  have hP : va_P (dC, dI) vwCl [(h0, .inr (0, [v_documents, v_buffer, v_fetched, v_compared, v_maker, v_writer, .ref hp, .int i_madeDocuments, .int i_fetchedSteps])), (hp, .inr (4, [.int 1, .int p_i_going, .int p_i_writesLeft]))] s.heap := hP
  have hl := lv_entry ([.ref h0]) (n := 1) (Nat.le_of_ble_eq_true rfl)
  rw [lg_entry_eq]
  generalize (lg_sl ([.ref h0]) ++ List.replicate (1 - (lg_sl ([.ref h0])).length) Slot.unset).toArray = ls at hl ⊢
  have hl : lv_has ls 1 [(0, .ref h0)] := hl
  refine lv_aload_n hx hb d_K_needPower_0 rfl (lv_at hl 0 rfl) ?_
  refine va_get (D := (dC, dI)) (ci := 0) (v := .ref hp) (C := R_K) (T := F_K) (N := 9) hx hb hw0 in_K hown hK hP 0 rfl rfl 6 (by decide) (hw0 (.fieldLink R_K 45 "TextKeeper" "power" "LTextKeeper$Power;") wm_105) (fun _ h9 => h9) rfl d_K_needPower_1 ?_
  refine va_getN (D := (dC, dI)) (ci := 4) (v := .int 1) (C := R_P) (T := F_P) (N := 3) hx hb hw0 in_P hown hK hP 1 rfl rfl 0 (by decide) (va_Nw.use rfl (hN.1 (.fieldLinkNest R_K 180 "TextKeeper$Power" "down" "Z" "TextKeeper") (List.mem_of_getElem? (i := 7) rfl))) (fun _ h9 => h9) rfl d_K_needPower_4 ?_
  refine lv_if_eq (tgt := 18) hx hb d_K_needPower_7 (by decide) (fun h9 => absurd h9 (by decide +kernel)) (fun _ => ?_)
  have hP9 := hP.sub (ws' := [(h0, .inr (0, [v_documents, v_buffer, v_fetched, v_compared, v_maker, v_writer, .ref hp, .int i_madeDocuments, .int i_fetchedSteps])), (hp, .inr (4, [.int 1, .int p_i_going, .int p_i_writesLeft]))]) [0, 1] rfl
  have hD9 := hD.sub (ws' := [(h0, .inr (0, [v_documents, v_buffer, v_fetched, v_compared, v_maker, v_writer, .ref hp, .int i_madeDocuments, .int i_fetchedSteps])), (hp, .inr (4, [.int 1, .int p_i_going, .int p_i_writesLeft]))]) [0, 1] (by decide) rfl
  have hK9 := hK.sub (tys' := []) [] rfl
  have tw_at : ∀ w ∈ vx_at0 "TextKeeper" 189 "java/lang/IllegalStateException" ["java/lang/RuntimeException", "java/lang/Exception"], w.before _ s = true := vx_hat (fun w h => hw0 w (twS_1 w h)) twS_2 (fun w h => va_Nw.use (nw0_tab w h) (hN.1 w h))
  exact vx_throw0 (names := ["java/lang/RuntimeException", "java/lang/Exception"]) (ik := 187) (ic := 189) (A := A) hx hb hl9 hown (by decide +kernel) (by decide +kernel) (hw0 (.classLink "TextKeeper" 187 "java/lang/IllegalStateException") wm_435) (hw0 (.initialized "java/lang/IllegalStateException") wm_436) tw_at twS_g hTwA.1 hTwA.2 hS (by rw [hml]; exact hl.1) d_K_needPower_10 d_K_needPower_13 d_K_needPower_14 d_K_needPower_17 (fun x hx => (htab x hx).elim) (by decide +kernel) (by decide +kernel) (by decide +kernel) (by decide +kernel) hlocks (fun t hvm hz hk => ⟨(), trivial, ⟨rfl, hP9.kept (fun k q hq => hk _ ((hP9 k q hq).lt)), va_K.moved hvm hK9, hD9⟩, Nat.le_trans hS.1 hz, fun q h hn => (hk q (Nat.lt_of_lt_of_le h hS.1)).trans (hS.2.1 q h hn)⟩) hS.2.2 (by decide +kernel) (by decide +kernel)
set_option maxHeartbeats 4000000 in
set_option maxRecDepth 100000 in
theorem x_feed_D (l : Launch) (hl9 : l.stackTraces = false) (dC : Nat → ClassId) (dI : Nat → Nat → Nat) (sz : Nat) (h0 : Nat) (v_documents : Value) (v_buffer : Value) (v_fetched : Value) (v_compared : Value) (v_maker : Value) (v_writer : Value) (i_madeDocuments : Int32) (i_fetchedSteps : Int32) (hp : Nat) (p_i_going : Int32) (p_i_writesLeft : Int32) (a1 : Int32) (a2 : Int32) (a3 : Int32) (a4 : Int32) (a5 : Int32)  : vx_Met l y_K_feed k_K_feed ({ frames := 7, cells := 1, slots := 6, locals := 105 } : Room) (va_Pc [.ref h0, .int a1, .int a2, .int a3, .int a4, .int a5] (fun U => pc_E (dC, dI) [(h0, .inr (0, [v_documents, v_buffer, v_fetched, v_compared, v_maker, v_writer, .ref hp, .int i_madeDocuments, .int i_fetchedSteps])), (hp, .inr (4, [.int 1, .int p_i_going, .int p_i_writesLeft]))] [] sz U ∧ tw_ok U)) (va_Qi (fun (_ : Int32) (_ : Unit) => False) (fun _ _ => True) (va_A [(h0, .inr (0, [v_documents, v_buffer, v_fetched, v_compared, v_maker, v_writer, .ref hp, .int i_madeDocuments, .int i_fetchedSteps])), (hp, .inr (4, [.int 1, .int p_i_going, .int p_i_writesLeft]))] sz)) (vx_X (fun _ : Unit => True) (fun E _ t => E = "java/lang/IllegalStateException" ∧ at_E (dC, dI) (va_A [(h0, .inr (0, [v_documents, v_buffer, v_fetched, v_compared, v_maker, v_writer, .ref hp, .int i_madeDocuments, .int i_fetchedSteps])), (hp, .inr (4, [.int 1, .int p_i_going, .int p_i_writesLeft]))] sz) [(h0, .inr (0, [v_documents, v_buffer, v_fetched, v_compared, v_maker, v_writer, .ref hp, .int i_madeDocuments, .int i_fetchedSteps])), (hp, .inr (4, [.int 1, .int p_i_going, .int p_i_writesLeft]))] [] t) (va_A [(h0, .inr (0, [v_documents, v_buffer, v_fetched, v_compared, v_maker, v_writer, .ref hp, .int i_madeDocuments, .int i_fetchedSteps])), (hp, .inr (4, [.int 1, .int p_i_going, .int p_i_writesLeft]))] sz)) 1 6 (va_A [(h0, .inr (0, [v_documents, v_buffer, v_fetched, v_compared, v_maker, v_writer, .ref hp, .int i_madeDocuments, .int i_fetchedSteps])), (hp, .inr (4, [.int 1, .int p_i_going, .int p_i_writesLeft]))] sz) := by
  refine vx_ofW (cc := prog_1_method_2_code) (maxL := 6) (ret := (some .boolean)) (by decide) rfl ?_
  intro p e s m args below meth c s₁ B hml htab hv
  obtain ⟨rfl, ⟨hsz, hP, hK, hD0, hN⟩, hTw⟩ := hv
  have hx := B.exec
  have hb := B.bytes
  have hr := B.returns
  have hts := atoms_spec (ws := k_K_feed) B.pre
  have hw0 : ∀ w ∈ w0, w.before _ s = true := fun w h => hts w (List.mem_cons_of_mem _ h)
  have hown : s.vm.findClass R_K = some m.cls := findClass_of_methodNamed B.named
  have hlocks := B.notSynchronized
  subst hsz
  have hD := hD0.self (sz := s.heap.size)
  have hTwA := tw_A hTw hP
  generalize hAe : va_A [(h0, .inr (0, [v_documents, v_buffer, v_fetched, v_compared, v_maker, v_writer, .ref hp, .int i_madeDocuments, .int i_fetchedSteps])), (hp, .inr (4, [.int 1, .int p_i_going, .int p_i_writesLeft]))] s.heap.size = A at hD hTwA ⊢
  have hA : ∀ q : Nat, s.heap.size ≤ q → A q := fun q h => by rw [← hAe]; exact Or.inr h
  have hS : va_S A s.heap s.heap [] := va_S.rf
  have hP : va_P (dC, dI) vwCl [(h0, .inr (0, [v_documents, v_buffer, v_fetched, v_compared, v_maker, v_writer, .ref hp, .int i_madeDocuments, .int i_fetchedSteps])), (hp, .inr (4, [.int 1, .int p_i_going, .int p_i_writesLeft]))] s.heap := hP
  have hl := lv_entry ([.ref h0, .int a1, .int a2, .int a3, .int a4, .int a5]) (n := 6) (Nat.le_of_ble_eq_true rfl)
  rw [lg_entry_eq]
  generalize (lg_sl ([.ref h0, .int a1, .int a2, .int a3, .int a4, .int a5]) ++ List.replicate (6 - (lg_sl ([.ref h0, .int a1, .int a2, .int a3, .int a4, .int a5])).length) Slot.unset).toArray = ls at hl ⊢
  have hl : lv_has ls 6 [(0, .ref h0), (1, .int a1), (2, .int a2), (3, .int a3), (4, .int a4), (5, .int a5)] := hl
  refine lv_aload_n hx hb d_K_feed_0 rfl (lv_at hl 0 rfl) ?_
  have hPc := hP.sub (ws' := [(h0, .inr (0, [v_documents, v_buffer, v_fetched, v_compared, v_maker, v_writer, .ref hp, .int i_madeDocuments, .int i_fetchedSteps])), (hp, .inr (4, [.int 1, .int p_i_going, .int p_i_writesLeft]))]) [0, 1] rfl
  have hKc := hK.sub (tys' := []) [] rfl
  have hDc := hD.sub (ws' := [(h0, .inr (0, [v_documents, v_buffer, v_fetched, v_compared, v_maker, v_writer, .ref hp, .int i_madeDocuments, .int i_fetchedSteps])), (hp, .inr (4, [.int 1, .int p_i_going, .int p_i_writesLeft]))]) [0, 1] (by decide) rfl
  have hFc := va_free (wc := [(h0, .inr (0, [v_documents, v_buffer, v_fetched, v_compared, v_maker, v_writer, .ref hp, .int i_madeDocuments, .int i_fetchedSteps])), (hp, .inr (4, [.int 1, .int p_i_going, .int p_i_writesLeft]))]) hD hS hA [0, 1] rfl
  refine vx_callv (vx_runV (As := []) (rest := []) ⟨hx, hb, hml, hown, hw0⟩ (x_needPower l hl9 dC dI s.heap.size h0 v_documents v_buffer v_fetched v_compared v_maker v_writer i_madeDocuments i_fetchedSteps hp p_i_going p_i_writesLeft ) (cwV 0 hw0 (gd_Vm wm_322 wm_323 wm_324 wm_226 wm_325) rfl rfl rfl (by decide +kernel) ⟨by decide +kernel, by decide +kernel⟩) (prV_X hPc hKc hDc hN (hTwA.at hS) (va_recv hKc hPc (ci := 0) (q0 := 0) rfl rfl)) rfl rfl hl.1 rfl (lv_room (Nat.le_of_ble_eq_true rfl)) d_K_feed_1 ⟨by decide +kernel, by decide +kernel⟩) hS (fun q _ h => hFc q h) hFc (fun q _ h => hFc q h) (fun E ce q9 u t H1 locs ht hvm hw hB hz1 hk1 hS hce hcv hcl => ?_) (fun u t H1 locs ht hvm hw hB hz1 hk1 hS => False.elim hw)
  obtain ⟨rfl, hP1, hK1, hD1⟩ := hB
  rw [ht] at hP1
  have hK1 := va_K.moved hvm.symm hK1
  obtain ⟨hP, hD⟩ := va_join (wr := []) (w1 := [(h0, .inr (0, [v_documents, v_buffer, v_fetched, v_compared, v_maker, v_writer, .ref hp, .int i_madeDocuments, .int i_fetchedSteps])), (hp, .inr (4, [.int 1, .int p_i_going, .int p_i_writesLeft]))]) hP hD [0, 1] [] rfl rfl (by decide) (by decide) hk1 hFc hP1 hD1
  generalize H1 = H at hP hS hce ⊢
  replace hP : va_P (dC, dI) vwCl [(h0, .inr (0, [v_documents, v_buffer, v_fetched, v_compared, v_maker, v_writer, .ref hp, .int i_madeDocuments, .int i_fetchedSteps])), (hp, .inr (4, [.int 1, .int p_i_going, .int p_i_writesLeft]))] H := hP
  replace hD : va_D A [(h0, .inr (0, [v_documents, v_buffer, v_fetched, v_compared, v_maker, v_writer, .ref hp, .int i_madeDocuments, .int i_fetchedSteps])), (hp, .inr (4, [.int 1, .int p_i_going, .int p_i_writesLeft]))] := hD
  have hP9 := hP.sub (ws' := [(h0, .inr (0, [v_documents, v_buffer, v_fetched, v_compared, v_maker, v_writer, .ref hp, .int i_madeDocuments, .int i_fetchedSteps])), (hp, .inr (4, [.int 1, .int p_i_going, .int p_i_writesLeft]))]) [0, 1] rfl
  have hD9 := hD.sub (ws' := [(h0, .inr (0, [v_documents, v_buffer, v_fetched, v_compared, v_maker, v_writer, .ref hp, .int i_madeDocuments, .int i_fetchedSteps])), (hp, .inr (4, [.int 1, .int p_i_going, .int p_i_writesLeft]))]) [0, 1] (by decide) rfl
  have hK9 := hK.sub (tys' := []) [] rfl
  exact vx_out (fun x hx => (htab x hx).elim) hlocks hce hcv hcl (fun t ht hvm => ⟨(), trivial, ⟨rfl, by rw [ht]; exact hP9, va_K.moved hvm hK9, hD9⟩, hS.F ht⟩) hS.2.2 (by decide +kernel) (by decide +kernel)
set_option maxHeartbeats 4000000 in
set_option maxRecDepth 100000 in
theorem x_end_D (l : Launch) (hl9 : l.stackTraces = false) (dC : Nat → ClassId) (dI : Nat → Nat → Nat) (sz : Nat) (h0 : Nat) (v_documents : Value) (v_buffer : Value) (v_fetched : Value) (v_compared : Value) (v_maker : Value) (v_writer : Value) (i_madeDocuments : Int32) (i_fetchedSteps : Int32) (hp : Nat) (p_i_going : Int32) (p_i_writesLeft : Int32) (a1 : Int32)  : vx_Met l y_K_end k_K_end ({ frames := 7, cells := 1, slots := 6, locals := 105 } : Room) (va_Pc [.ref h0, .int a1] (fun U => pc_E (dC, dI) [(h0, .inr (0, [v_documents, v_buffer, v_fetched, v_compared, v_maker, v_writer, .ref hp, .int i_madeDocuments, .int i_fetchedSteps])), (hp, .inr (4, [.int 1, .int p_i_going, .int p_i_writesLeft]))] [] sz U ∧ tw_ok U)) (va_Qi (fun (_ : Int32) (_ : Unit) => False) (fun _ _ => True) (va_A [(h0, .inr (0, [v_documents, v_buffer, v_fetched, v_compared, v_maker, v_writer, .ref hp, .int i_madeDocuments, .int i_fetchedSteps])), (hp, .inr (4, [.int 1, .int p_i_going, .int p_i_writesLeft]))] sz)) (vx_X (fun _ : Unit => True) (fun E _ t => E = "java/lang/IllegalStateException" ∧ at_E (dC, dI) (va_A [(h0, .inr (0, [v_documents, v_buffer, v_fetched, v_compared, v_maker, v_writer, .ref hp, .int i_madeDocuments, .int i_fetchedSteps])), (hp, .inr (4, [.int 1, .int p_i_going, .int p_i_writesLeft]))] sz) [(h0, .inr (0, [v_documents, v_buffer, v_fetched, v_compared, v_maker, v_writer, .ref hp, .int i_madeDocuments, .int i_fetchedSteps])), (hp, .inr (4, [.int 1, .int p_i_going, .int p_i_writesLeft]))] [] t) (va_A [(h0, .inr (0, [v_documents, v_buffer, v_fetched, v_compared, v_maker, v_writer, .ref hp, .int i_madeDocuments, .int i_fetchedSteps])), (hp, .inr (4, [.int 1, .int p_i_going, .int p_i_writesLeft]))] sz)) 1 6 (va_A [(h0, .inr (0, [v_documents, v_buffer, v_fetched, v_compared, v_maker, v_writer, .ref hp, .int i_madeDocuments, .int i_fetchedSteps])), (hp, .inr (4, [.int 1, .int p_i_going, .int p_i_writesLeft]))] sz) := by
  refine vx_ofW (cc := prog_1_method_3_code) (maxL := 2) (ret := (some .boolean)) (by decide) rfl ?_
  intro p e s m args below meth c s₁ B hml htab hv
  obtain ⟨rfl, ⟨hsz, hP, hK, hD0, hN⟩, hTw⟩ := hv
  have hx := B.exec
  have hb := B.bytes
  have hr := B.returns
  have hts := atoms_spec (ws := k_K_end) B.pre
  have hw0 : ∀ w ∈ w0, w.before _ s = true := fun w h => hts w (List.mem_cons_of_mem _ h)
  have hown : s.vm.findClass R_K = some m.cls := findClass_of_methodNamed B.named
  have hlocks := B.notSynchronized
  subst hsz
  have hD := hD0.self (sz := s.heap.size)
  have hTwA := tw_A hTw hP
  generalize hAe : va_A [(h0, .inr (0, [v_documents, v_buffer, v_fetched, v_compared, v_maker, v_writer, .ref hp, .int i_madeDocuments, .int i_fetchedSteps])), (hp, .inr (4, [.int 1, .int p_i_going, .int p_i_writesLeft]))] s.heap.size = A at hD hTwA ⊢
  have hA : ∀ q : Nat, s.heap.size ≤ q → A q := fun q h => by rw [← hAe]; exact Or.inr h
  have hS : va_S A s.heap s.heap [] := va_S.rf
  have hP : va_P (dC, dI) vwCl [(h0, .inr (0, [v_documents, v_buffer, v_fetched, v_compared, v_maker, v_writer, .ref hp, .int i_madeDocuments, .int i_fetchedSteps])), (hp, .inr (4, [.int 1, .int p_i_going, .int p_i_writesLeft]))] s.heap := hP
  have hl := lv_entry ([.ref h0, .int a1]) (n := 2) (Nat.le_of_ble_eq_true rfl)
  rw [lg_entry_eq]
  generalize (lg_sl ([.ref h0, .int a1]) ++ List.replicate (2 - (lg_sl ([.ref h0, .int a1])).length) Slot.unset).toArray = ls at hl ⊢
  have hl : lv_has ls 2 [(0, .ref h0), (1, .int a1)] := hl
  refine lv_aload_n hx hb d_K_end_0 rfl (lv_at hl 0 rfl) ?_
  have hPc := hP.sub (ws' := [(h0, .inr (0, [v_documents, v_buffer, v_fetched, v_compared, v_maker, v_writer, .ref hp, .int i_madeDocuments, .int i_fetchedSteps])), (hp, .inr (4, [.int 1, .int p_i_going, .int p_i_writesLeft]))]) [0, 1] rfl
  have hKc := hK.sub (tys' := []) [] rfl
  have hDc := hD.sub (ws' := [(h0, .inr (0, [v_documents, v_buffer, v_fetched, v_compared, v_maker, v_writer, .ref hp, .int i_madeDocuments, .int i_fetchedSteps])), (hp, .inr (4, [.int 1, .int p_i_going, .int p_i_writesLeft]))]) [0, 1] (by decide) rfl
  have hFc := va_free (wc := [(h0, .inr (0, [v_documents, v_buffer, v_fetched, v_compared, v_maker, v_writer, .ref hp, .int i_madeDocuments, .int i_fetchedSteps])), (hp, .inr (4, [.int 1, .int p_i_going, .int p_i_writesLeft]))]) hD hS hA [0, 1] rfl
  refine vx_callv (vx_runV (As := []) (rest := []) ⟨hx, hb, hml, hown, hw0⟩ (x_needPower l hl9 dC dI s.heap.size h0 v_documents v_buffer v_fetched v_compared v_maker v_writer i_madeDocuments i_fetchedSteps hp p_i_going p_i_writesLeft ) (cwV 0 hw0 (gd_Vm wm_322 wm_323 wm_324 wm_226 wm_325) rfl rfl rfl (by decide +kernel) ⟨by decide +kernel, by decide +kernel⟩) (prV_X hPc hKc hDc hN (hTwA.at hS) (va_recv hKc hPc (ci := 0) (q0 := 0) rfl rfl)) rfl rfl hl.1 rfl (lv_room (Nat.le_of_ble_eq_true rfl)) d_K_end_1 ⟨by decide +kernel, by decide +kernel⟩) hS (fun q _ h => hFc q h) hFc (fun q _ h => hFc q h) (fun E ce q9 u t H1 locs ht hvm hw hB hz1 hk1 hS hce hcv hcl => ?_) (fun u t H1 locs ht hvm hw hB hz1 hk1 hS => False.elim hw)
  obtain ⟨rfl, hP1, hK1, hD1⟩ := hB
  rw [ht] at hP1
  have hK1 := va_K.moved hvm.symm hK1
  obtain ⟨hP, hD⟩ := va_join (wr := []) (w1 := [(h0, .inr (0, [v_documents, v_buffer, v_fetched, v_compared, v_maker, v_writer, .ref hp, .int i_madeDocuments, .int i_fetchedSteps])), (hp, .inr (4, [.int 1, .int p_i_going, .int p_i_writesLeft]))]) hP hD [0, 1] [] rfl rfl (by decide) (by decide) hk1 hFc hP1 hD1
  generalize H1 = H at hP hS hce ⊢
  replace hP : va_P (dC, dI) vwCl [(h0, .inr (0, [v_documents, v_buffer, v_fetched, v_compared, v_maker, v_writer, .ref hp, .int i_madeDocuments, .int i_fetchedSteps])), (hp, .inr (4, [.int 1, .int p_i_going, .int p_i_writesLeft]))] H := hP
  replace hD : va_D A [(h0, .inr (0, [v_documents, v_buffer, v_fetched, v_compared, v_maker, v_writer, .ref hp, .int i_madeDocuments, .int i_fetchedSteps])), (hp, .inr (4, [.int 1, .int p_i_going, .int p_i_writesLeft]))] := hD
  have hP9 := hP.sub (ws' := [(h0, .inr (0, [v_documents, v_buffer, v_fetched, v_compared, v_maker, v_writer, .ref hp, .int i_madeDocuments, .int i_fetchedSteps])), (hp, .inr (4, [.int 1, .int p_i_going, .int p_i_writesLeft]))]) [0, 1] rfl
  have hD9 := hD.sub (ws' := [(h0, .inr (0, [v_documents, v_buffer, v_fetched, v_compared, v_maker, v_writer, .ref hp, .int i_madeDocuments, .int i_fetchedSteps])), (hp, .inr (4, [.int 1, .int p_i_going, .int p_i_writesLeft]))]) [0, 1] (by decide) rfl
  have hK9 := hK.sub (tys' := []) [] rfl
  exact vx_out (fun x hx => (htab x hx).elim) hlocks hce hcv hcl (fun t ht hvm => ⟨(), trivial, ⟨rfl, by rw [ht]; exact hP9, va_K.moved hvm hK9, hD9⟩, hS.F ht⟩) hS.2.2 (by decide +kernel) (by decide +kernel)
set_option maxHeartbeats 4000000 in
set_option maxRecDepth 100000 in
theorem x_make_D (l : Launch) (hl9 : l.stackTraces = false) (dC : Nat → ClassId) (dI : Nat → Nat → Nat) (sz : Nat) (h0 : Nat) (v_documents : Value) (v_buffer : Value) (v_fetched : Value) (v_compared : Value) (v_maker : Value) (v_writer : Value) (i_madeDocuments : Int32) (i_fetchedSteps : Int32) (hp : Nat) (p_i_going : Int32) (p_i_writesLeft : Int32)  : vx_Met l y_K_make k_K_make ({ frames := 7, cells := 1, slots := 6, locals := 105 } : Room) (va_Pc [.ref h0] (fun U => pc_E (dC, dI) [(h0, .inr (0, [v_documents, v_buffer, v_fetched, v_compared, v_maker, v_writer, .ref hp, .int i_madeDocuments, .int i_fetchedSteps])), (hp, .inr (4, [.int 1, .int p_i_going, .int p_i_writesLeft]))] [] sz U ∧ tw_ok U)) (va_Qi (fun (_ : Int32) (_ : Unit) => False) (fun _ _ => True) (va_A [(h0, .inr (0, [v_documents, v_buffer, v_fetched, v_compared, v_maker, v_writer, .ref hp, .int i_madeDocuments, .int i_fetchedSteps])), (hp, .inr (4, [.int 1, .int p_i_going, .int p_i_writesLeft]))] sz)) (vx_X (fun _ : Unit => True) (fun E _ t => E = "java/lang/IllegalStateException" ∧ at_E (dC, dI) (va_A [(h0, .inr (0, [v_documents, v_buffer, v_fetched, v_compared, v_maker, v_writer, .ref hp, .int i_madeDocuments, .int i_fetchedSteps])), (hp, .inr (4, [.int 1, .int p_i_going, .int p_i_writesLeft]))] sz) [(h0, .inr (0, [v_documents, v_buffer, v_fetched, v_compared, v_maker, v_writer, .ref hp, .int i_madeDocuments, .int i_fetchedSteps])), (hp, .inr (4, [.int 1, .int p_i_going, .int p_i_writesLeft]))] [] t) (va_A [(h0, .inr (0, [v_documents, v_buffer, v_fetched, v_compared, v_maker, v_writer, .ref hp, .int i_madeDocuments, .int i_fetchedSteps])), (hp, .inr (4, [.int 1, .int p_i_going, .int p_i_writesLeft]))] sz)) 1 6 (va_A [(h0, .inr (0, [v_documents, v_buffer, v_fetched, v_compared, v_maker, v_writer, .ref hp, .int i_madeDocuments, .int i_fetchedSteps])), (hp, .inr (4, [.int 1, .int p_i_going, .int p_i_writesLeft]))] sz) := by
  refine vx_ofW (cc := prog_1_method_4_code) (maxL := 2) (ret := (some .int)) (by decide) rfl ?_
  intro p e s m args below meth c s₁ B hml htab hv
  obtain ⟨rfl, ⟨hsz, hP, hK, hD0, hN⟩, hTw⟩ := hv
  have hx := B.exec
  have hb := B.bytes
  have hr := B.returns
  have hts := atoms_spec (ws := k_K_make) B.pre
  have hw0 : ∀ w ∈ w0, w.before _ s = true := fun w h => hts w (List.mem_cons_of_mem _ h)
  have hown : s.vm.findClass R_K = some m.cls := findClass_of_methodNamed B.named
  have hlocks := B.notSynchronized
  subst hsz
  have hD := hD0.self (sz := s.heap.size)
  have hTwA := tw_A hTw hP
  generalize hAe : va_A [(h0, .inr (0, [v_documents, v_buffer, v_fetched, v_compared, v_maker, v_writer, .ref hp, .int i_madeDocuments, .int i_fetchedSteps])), (hp, .inr (4, [.int 1, .int p_i_going, .int p_i_writesLeft]))] s.heap.size = A at hD hTwA ⊢
  have hA : ∀ q : Nat, s.heap.size ≤ q → A q := fun q h => by rw [← hAe]; exact Or.inr h
  have hS : va_S A s.heap s.heap [] := va_S.rf
  have hP : va_P (dC, dI) vwCl [(h0, .inr (0, [v_documents, v_buffer, v_fetched, v_compared, v_maker, v_writer, .ref hp, .int i_madeDocuments, .int i_fetchedSteps])), (hp, .inr (4, [.int 1, .int p_i_going, .int p_i_writesLeft]))] s.heap := hP
  have hl := lv_entry ([.ref h0]) (n := 2) (Nat.le_of_ble_eq_true rfl)
  rw [lg_entry_eq]
  generalize (lg_sl ([.ref h0]) ++ List.replicate (2 - (lg_sl ([.ref h0])).length) Slot.unset).toArray = ls at hl ⊢
  have hl : lv_has ls 2 [(0, .ref h0)] := hl
  refine lv_aload_n hx hb d_K_make_0 rfl (lv_at hl 0 rfl) ?_
  have hPc := hP.sub (ws' := [(h0, .inr (0, [v_documents, v_buffer, v_fetched, v_compared, v_maker, v_writer, .ref hp, .int i_madeDocuments, .int i_fetchedSteps])), (hp, .inr (4, [.int 1, .int p_i_going, .int p_i_writesLeft]))]) [0, 1] rfl
  have hKc := hK.sub (tys' := []) [] rfl
  have hDc := hD.sub (ws' := [(h0, .inr (0, [v_documents, v_buffer, v_fetched, v_compared, v_maker, v_writer, .ref hp, .int i_madeDocuments, .int i_fetchedSteps])), (hp, .inr (4, [.int 1, .int p_i_going, .int p_i_writesLeft]))]) [0, 1] (by decide) rfl
  have hFc := va_free (wc := [(h0, .inr (0, [v_documents, v_buffer, v_fetched, v_compared, v_maker, v_writer, .ref hp, .int i_madeDocuments, .int i_fetchedSteps])), (hp, .inr (4, [.int 1, .int p_i_going, .int p_i_writesLeft]))]) hD hS hA [0, 1] rfl
  refine vx_callv (vx_runV (As := []) (rest := []) ⟨hx, hb, hml, hown, hw0⟩ (x_needPower l hl9 dC dI s.heap.size h0 v_documents v_buffer v_fetched v_compared v_maker v_writer i_madeDocuments i_fetchedSteps hp p_i_going p_i_writesLeft ) (cwV 0 hw0 (gd_Vm wm_322 wm_323 wm_324 wm_226 wm_325) rfl rfl rfl (by decide +kernel) ⟨by decide +kernel, by decide +kernel⟩) (prV_X hPc hKc hDc hN (hTwA.at hS) (va_recv hKc hPc (ci := 0) (q0 := 0) rfl rfl)) rfl rfl hl.1 rfl (lv_room (Nat.le_of_ble_eq_true rfl)) d_K_make_1 ⟨by decide +kernel, by decide +kernel⟩) hS (fun q _ h => hFc q h) hFc (fun q _ h => hFc q h) (fun E ce q9 u t H1 locs ht hvm hw hB hz1 hk1 hS hce hcv hcl => ?_) (fun u t H1 locs ht hvm hw hB hz1 hk1 hS => False.elim hw)
  obtain ⟨rfl, hP1, hK1, hD1⟩ := hB
  rw [ht] at hP1
  have hK1 := va_K.moved hvm.symm hK1
  obtain ⟨hP, hD⟩ := va_join (wr := []) (w1 := [(h0, .inr (0, [v_documents, v_buffer, v_fetched, v_compared, v_maker, v_writer, .ref hp, .int i_madeDocuments, .int i_fetchedSteps])), (hp, .inr (4, [.int 1, .int p_i_going, .int p_i_writesLeft]))]) hP hD [0, 1] [] rfl rfl (by decide) (by decide) hk1 hFc hP1 hD1
  generalize H1 = H at hP hS hce ⊢
  replace hP : va_P (dC, dI) vwCl [(h0, .inr (0, [v_documents, v_buffer, v_fetched, v_compared, v_maker, v_writer, .ref hp, .int i_madeDocuments, .int i_fetchedSteps])), (hp, .inr (4, [.int 1, .int p_i_going, .int p_i_writesLeft]))] H := hP
  replace hD : va_D A [(h0, .inr (0, [v_documents, v_buffer, v_fetched, v_compared, v_maker, v_writer, .ref hp, .int i_madeDocuments, .int i_fetchedSteps])), (hp, .inr (4, [.int 1, .int p_i_going, .int p_i_writesLeft]))] := hD
  have hP9 := hP.sub (ws' := [(h0, .inr (0, [v_documents, v_buffer, v_fetched, v_compared, v_maker, v_writer, .ref hp, .int i_madeDocuments, .int i_fetchedSteps])), (hp, .inr (4, [.int 1, .int p_i_going, .int p_i_writesLeft]))]) [0, 1] rfl
  have hD9 := hD.sub (ws' := [(h0, .inr (0, [v_documents, v_buffer, v_fetched, v_compared, v_maker, v_writer, .ref hp, .int i_madeDocuments, .int i_fetchedSteps])), (hp, .inr (4, [.int 1, .int p_i_going, .int p_i_writesLeft]))]) [0, 1] (by decide) rfl
  have hK9 := hK.sub (tys' := []) [] rfl
  exact vx_out (fun x hx => (htab x hx).elim) hlocks hce hcv hcl (fun t ht hvm => ⟨(), trivial, ⟨rfl, by rw [ht]; exact hP9, va_K.moved hvm hK9, hD9⟩, hS.F ht⟩) hS.2.2 (by decide +kernel) (by decide +kernel)
set_option maxHeartbeats 4000000 in
set_option maxRecDepth 100000 in
theorem x_commit_D (l : Launch) (hl9 : l.stackTraces = false) (dC : Nat → ClassId) (dI : Nat → Nat → Nat) (sz : Nat) (h0 : Nat) (v_documents : Value) (v_buffer : Value) (v_fetched : Value) (v_compared : Value) (v_maker : Value) (v_writer : Value) (i_madeDocuments : Int32) (i_fetchedSteps : Int32) (hp : Nat) (p_i_going : Int32) (p_i_writesLeft : Int32) (a1 : Int32) (a2 : Int32)  : vx_Met l y_K_commit k_K_commit ({ frames := 7, cells := 1, slots := 6, locals := 105 } : Room) (va_Pc [.ref h0, .int a1, .int a2] (fun U => pc_E (dC, dI) [(h0, .inr (0, [v_documents, v_buffer, v_fetched, v_compared, v_maker, v_writer, .ref hp, .int i_madeDocuments, .int i_fetchedSteps])), (hp, .inr (4, [.int 1, .int p_i_going, .int p_i_writesLeft]))] [] sz U ∧ tw_ok U)) (va_Qi (fun (_ : Int32) (_ : Unit) => False) (fun _ _ => True) (va_A [(h0, .inr (0, [v_documents, v_buffer, v_fetched, v_compared, v_maker, v_writer, .ref hp, .int i_madeDocuments, .int i_fetchedSteps])), (hp, .inr (4, [.int 1, .int p_i_going, .int p_i_writesLeft]))] sz)) (vx_X (fun _ : Unit => True) (fun E _ t => E = "java/lang/IllegalStateException" ∧ at_E (dC, dI) (va_A [(h0, .inr (0, [v_documents, v_buffer, v_fetched, v_compared, v_maker, v_writer, .ref hp, .int i_madeDocuments, .int i_fetchedSteps])), (hp, .inr (4, [.int 1, .int p_i_going, .int p_i_writesLeft]))] sz) [(h0, .inr (0, [v_documents, v_buffer, v_fetched, v_compared, v_maker, v_writer, .ref hp, .int i_madeDocuments, .int i_fetchedSteps])), (hp, .inr (4, [.int 1, .int p_i_going, .int p_i_writesLeft]))] [] t) (va_A [(h0, .inr (0, [v_documents, v_buffer, v_fetched, v_compared, v_maker, v_writer, .ref hp, .int i_madeDocuments, .int i_fetchedSteps])), (hp, .inr (4, [.int 1, .int p_i_going, .int p_i_writesLeft]))] sz)) 1 6 (va_A [(h0, .inr (0, [v_documents, v_buffer, v_fetched, v_compared, v_maker, v_writer, .ref hp, .int i_madeDocuments, .int i_fetchedSteps])), (hp, .inr (4, [.int 1, .int p_i_going, .int p_i_writesLeft]))] sz) := by
  refine vx_ofW (cc := prog_1_method_5_code) (maxL := 7) (ret := (some .int)) (by decide) rfl ?_
  intro p e s m args below meth c s₁ B hml htab hv
  obtain ⟨rfl, ⟨hsz, hP, hK, hD0, hN⟩, hTw⟩ := hv
  have hx := B.exec
  have hb := B.bytes
  have hr := B.returns
  have hts := atoms_spec (ws := k_K_commit) B.pre
  have hw0 : ∀ w ∈ w0, w.before _ s = true := fun w h => hts w (List.mem_cons_of_mem _ h)
  have hown : s.vm.findClass R_K = some m.cls := findClass_of_methodNamed B.named
  have hlocks := B.notSynchronized
  subst hsz
  have hD := hD0.self (sz := s.heap.size)
  have hTwA := tw_A hTw hP
  generalize hAe : va_A [(h0, .inr (0, [v_documents, v_buffer, v_fetched, v_compared, v_maker, v_writer, .ref hp, .int i_madeDocuments, .int i_fetchedSteps])), (hp, .inr (4, [.int 1, .int p_i_going, .int p_i_writesLeft]))] s.heap.size = A at hD hTwA ⊢
  have hA : ∀ q : Nat, s.heap.size ≤ q → A q := fun q h => by rw [← hAe]; exact Or.inr h
  have hS : va_S A s.heap s.heap [] := va_S.rf
  have hP : va_P (dC, dI) vwCl [(h0, .inr (0, [v_documents, v_buffer, v_fetched, v_compared, v_maker, v_writer, .ref hp, .int i_madeDocuments, .int i_fetchedSteps])), (hp, .inr (4, [.int 1, .int p_i_going, .int p_i_writesLeft]))] s.heap := hP
  have hl := lv_entry ([.ref h0, .int a1, .int a2]) (n := 7) (Nat.le_of_ble_eq_true rfl)
  rw [lg_entry_eq]
  generalize (lg_sl ([.ref h0, .int a1, .int a2]) ++ List.replicate (7 - (lg_sl ([.ref h0, .int a1, .int a2])).length) Slot.unset).toArray = ls at hl ⊢
  have hl : lv_has ls 7 [(0, .ref h0), (1, .int a1), (2, .int a2)] := hl
  refine lv_aload_n hx hb d_K_commit_0 rfl (lv_at hl 0 rfl) ?_
  have hPc := hP.sub (ws' := [(h0, .inr (0, [v_documents, v_buffer, v_fetched, v_compared, v_maker, v_writer, .ref hp, .int i_madeDocuments, .int i_fetchedSteps])), (hp, .inr (4, [.int 1, .int p_i_going, .int p_i_writesLeft]))]) [0, 1] rfl
  have hKc := hK.sub (tys' := []) [] rfl
  have hDc := hD.sub (ws' := [(h0, .inr (0, [v_documents, v_buffer, v_fetched, v_compared, v_maker, v_writer, .ref hp, .int i_madeDocuments, .int i_fetchedSteps])), (hp, .inr (4, [.int 1, .int p_i_going, .int p_i_writesLeft]))]) [0, 1] (by decide) rfl
  have hFc := va_free (wc := [(h0, .inr (0, [v_documents, v_buffer, v_fetched, v_compared, v_maker, v_writer, .ref hp, .int i_madeDocuments, .int i_fetchedSteps])), (hp, .inr (4, [.int 1, .int p_i_going, .int p_i_writesLeft]))]) hD hS hA [0, 1] rfl
  refine vx_callv (vx_runV (As := []) (rest := []) ⟨hx, hb, hml, hown, hw0⟩ (x_needPower l hl9 dC dI s.heap.size h0 v_documents v_buffer v_fetched v_compared v_maker v_writer i_madeDocuments i_fetchedSteps hp p_i_going p_i_writesLeft ) (cwV 0 hw0 (gd_Vm wm_322 wm_323 wm_324 wm_226 wm_325) rfl rfl rfl (by decide +kernel) ⟨by decide +kernel, by decide +kernel⟩) (prV_X hPc hKc hDc hN (hTwA.at hS) (va_recv hKc hPc (ci := 0) (q0 := 0) rfl rfl)) rfl rfl hl.1 rfl (lv_room (Nat.le_of_ble_eq_true rfl)) d_K_commit_1 ⟨by decide +kernel, by decide +kernel⟩) hS (fun q _ h => hFc q h) hFc (fun q _ h => hFc q h) (fun E ce q9 u t H1 locs ht hvm hw hB hz1 hk1 hS hce hcv hcl => ?_) (fun u t H1 locs ht hvm hw hB hz1 hk1 hS => False.elim hw)
  obtain ⟨rfl, hP1, hK1, hD1⟩ := hB
  rw [ht] at hP1
  have hK1 := va_K.moved hvm.symm hK1
  obtain ⟨hP, hD⟩ := va_join (wr := []) (w1 := [(h0, .inr (0, [v_documents, v_buffer, v_fetched, v_compared, v_maker, v_writer, .ref hp, .int i_madeDocuments, .int i_fetchedSteps])), (hp, .inr (4, [.int 1, .int p_i_going, .int p_i_writesLeft]))]) hP hD [0, 1] [] rfl rfl (by decide) (by decide) hk1 hFc hP1 hD1
  generalize H1 = H at hP hS hce ⊢
  replace hP : va_P (dC, dI) vwCl [(h0, .inr (0, [v_documents, v_buffer, v_fetched, v_compared, v_maker, v_writer, .ref hp, .int i_madeDocuments, .int i_fetchedSteps])), (hp, .inr (4, [.int 1, .int p_i_going, .int p_i_writesLeft]))] H := hP
  replace hD : va_D A [(h0, .inr (0, [v_documents, v_buffer, v_fetched, v_compared, v_maker, v_writer, .ref hp, .int i_madeDocuments, .int i_fetchedSteps])), (hp, .inr (4, [.int 1, .int p_i_going, .int p_i_writesLeft]))] := hD
  have hP9 := hP.sub (ws' := [(h0, .inr (0, [v_documents, v_buffer, v_fetched, v_compared, v_maker, v_writer, .ref hp, .int i_madeDocuments, .int i_fetchedSteps])), (hp, .inr (4, [.int 1, .int p_i_going, .int p_i_writesLeft]))]) [0, 1] rfl
  have hD9 := hD.sub (ws' := [(h0, .inr (0, [v_documents, v_buffer, v_fetched, v_compared, v_maker, v_writer, .ref hp, .int i_madeDocuments, .int i_fetchedSteps])), (hp, .inr (4, [.int 1, .int p_i_going, .int p_i_writesLeft]))]) [0, 1] (by decide) rfl
  have hK9 := hK.sub (tys' := []) [] rfl
  exact vx_out (fun x hx => (htab x hx).elim) hlocks hce hcv hcl (fun t ht hvm => ⟨(), trivial, ⟨rfl, by rw [ht]; exact hP9, va_K.moved hvm hK9, hD9⟩, hS.F ht⟩) hS.2.2 (by decide +kernel) (by decide +kernel)
set_option maxHeartbeats 4000000 in
set_option maxRecDepth 100000 in
theorem x_fetch_D (l : Launch) (hl9 : l.stackTraces = false) (dC : Nat → ClassId) (dI : Nat → Nat → Nat) (sz : Nat) (h0 : Nat) (v_documents : Value) (v_buffer : Value) (v_fetched : Value) (v_compared : Value) (v_maker : Value) (v_writer : Value) (i_madeDocuments : Int32) (i_fetchedSteps : Int32) (hp : Nat) (p_i_going : Int32) (p_i_writesLeft : Int32) (a1 : Int32) (a2 : Int32)  : vx_Met l y_K_fetch k_K_fetch ({ frames := 7, cells := 1, slots := 6, locals := 105 } : Room) (va_Pc [.ref h0, .int a1, .int a2] (fun U => pc_E (dC, dI) [(h0, .inr (0, [v_documents, v_buffer, v_fetched, v_compared, v_maker, v_writer, .ref hp, .int i_madeDocuments, .int i_fetchedSteps])), (hp, .inr (4, [.int 1, .int p_i_going, .int p_i_writesLeft]))] [] sz U ∧ tw_ok U)) (va_Qi (fun (_ : Int32) (_ : Unit) => False) (fun _ _ => True) (va_A [(h0, .inr (0, [v_documents, v_buffer, v_fetched, v_compared, v_maker, v_writer, .ref hp, .int i_madeDocuments, .int i_fetchedSteps])), (hp, .inr (4, [.int 1, .int p_i_going, .int p_i_writesLeft]))] sz)) (vx_X (fun _ : Unit => True) (fun E _ t => E = "java/lang/IllegalStateException" ∧ at_E (dC, dI) (va_A [(h0, .inr (0, [v_documents, v_buffer, v_fetched, v_compared, v_maker, v_writer, .ref hp, .int i_madeDocuments, .int i_fetchedSteps])), (hp, .inr (4, [.int 1, .int p_i_going, .int p_i_writesLeft]))] sz) [(h0, .inr (0, [v_documents, v_buffer, v_fetched, v_compared, v_maker, v_writer, .ref hp, .int i_madeDocuments, .int i_fetchedSteps])), (hp, .inr (4, [.int 1, .int p_i_going, .int p_i_writesLeft]))] [] t) (va_A [(h0, .inr (0, [v_documents, v_buffer, v_fetched, v_compared, v_maker, v_writer, .ref hp, .int i_madeDocuments, .int i_fetchedSteps])), (hp, .inr (4, [.int 1, .int p_i_going, .int p_i_writesLeft]))] sz)) 1 6 (va_A [(h0, .inr (0, [v_documents, v_buffer, v_fetched, v_compared, v_maker, v_writer, .ref hp, .int i_madeDocuments, .int i_fetchedSteps])), (hp, .inr (4, [.int 1, .int p_i_going, .int p_i_writesLeft]))] sz) := by
  refine vx_ofW (cc := prog_1_method_6_code) (maxL := 5) (ret := (some .int)) (by decide) rfl ?_
  intro p e s m args below meth c s₁ B hml htab hv
  obtain ⟨rfl, ⟨hsz, hP, hK, hD0, hN⟩, hTw⟩ := hv
  have hx := B.exec
  have hb := B.bytes
  have hr := B.returns
  have hts := atoms_spec (ws := k_K_fetch) B.pre
  have hw0 : ∀ w ∈ w0, w.before _ s = true := fun w h => hts w (List.mem_cons_of_mem _ h)
  have hown : s.vm.findClass R_K = some m.cls := findClass_of_methodNamed B.named
  have hlocks := B.notSynchronized
  subst hsz
  have hD := hD0.self (sz := s.heap.size)
  have hTwA := tw_A hTw hP
  generalize hAe : va_A [(h0, .inr (0, [v_documents, v_buffer, v_fetched, v_compared, v_maker, v_writer, .ref hp, .int i_madeDocuments, .int i_fetchedSteps])), (hp, .inr (4, [.int 1, .int p_i_going, .int p_i_writesLeft]))] s.heap.size = A at hD hTwA ⊢
  have hA : ∀ q : Nat, s.heap.size ≤ q → A q := fun q h => by rw [← hAe]; exact Or.inr h
  have hS : va_S A s.heap s.heap [] := va_S.rf
  have hP : va_P (dC, dI) vwCl [(h0, .inr (0, [v_documents, v_buffer, v_fetched, v_compared, v_maker, v_writer, .ref hp, .int i_madeDocuments, .int i_fetchedSteps])), (hp, .inr (4, [.int 1, .int p_i_going, .int p_i_writesLeft]))] s.heap := hP
  have hl := lv_entry ([.ref h0, .int a1, .int a2]) (n := 5) (Nat.le_of_ble_eq_true rfl)
  rw [lg_entry_eq]
  generalize (lg_sl ([.ref h0, .int a1, .int a2]) ++ List.replicate (5 - (lg_sl ([.ref h0, .int a1, .int a2])).length) Slot.unset).toArray = ls at hl ⊢
  have hl : lv_has ls 5 [(0, .ref h0), (1, .int a1), (2, .int a2)] := hl
  refine lv_aload_n hx hb d_K_fetch_0 rfl (lv_at hl 0 rfl) ?_
  have hPc := hP.sub (ws' := [(h0, .inr (0, [v_documents, v_buffer, v_fetched, v_compared, v_maker, v_writer, .ref hp, .int i_madeDocuments, .int i_fetchedSteps])), (hp, .inr (4, [.int 1, .int p_i_going, .int p_i_writesLeft]))]) [0, 1] rfl
  have hKc := hK.sub (tys' := []) [] rfl
  have hDc := hD.sub (ws' := [(h0, .inr (0, [v_documents, v_buffer, v_fetched, v_compared, v_maker, v_writer, .ref hp, .int i_madeDocuments, .int i_fetchedSteps])), (hp, .inr (4, [.int 1, .int p_i_going, .int p_i_writesLeft]))]) [0, 1] (by decide) rfl
  have hFc := va_free (wc := [(h0, .inr (0, [v_documents, v_buffer, v_fetched, v_compared, v_maker, v_writer, .ref hp, .int i_madeDocuments, .int i_fetchedSteps])), (hp, .inr (4, [.int 1, .int p_i_going, .int p_i_writesLeft]))]) hD hS hA [0, 1] rfl
  refine vx_callv (vx_runV (As := []) (rest := []) ⟨hx, hb, hml, hown, hw0⟩ (x_needPower l hl9 dC dI s.heap.size h0 v_documents v_buffer v_fetched v_compared v_maker v_writer i_madeDocuments i_fetchedSteps hp p_i_going p_i_writesLeft ) (cwV 0 hw0 (gd_Vm wm_322 wm_323 wm_324 wm_226 wm_325) rfl rfl rfl (by decide +kernel) ⟨by decide +kernel, by decide +kernel⟩) (prV_X hPc hKc hDc hN (hTwA.at hS) (va_recv hKc hPc (ci := 0) (q0 := 0) rfl rfl)) rfl rfl hl.1 rfl (lv_room (Nat.le_of_ble_eq_true rfl)) d_K_fetch_1 ⟨by decide +kernel, by decide +kernel⟩) hS (fun q _ h => hFc q h) hFc (fun q _ h => hFc q h) (fun E ce q9 u t H1 locs ht hvm hw hB hz1 hk1 hS hce hcv hcl => ?_) (fun u t H1 locs ht hvm hw hB hz1 hk1 hS => False.elim hw)
  obtain ⟨rfl, hP1, hK1, hD1⟩ := hB
  rw [ht] at hP1
  have hK1 := va_K.moved hvm.symm hK1
  obtain ⟨hP, hD⟩ := va_join (wr := []) (w1 := [(h0, .inr (0, [v_documents, v_buffer, v_fetched, v_compared, v_maker, v_writer, .ref hp, .int i_madeDocuments, .int i_fetchedSteps])), (hp, .inr (4, [.int 1, .int p_i_going, .int p_i_writesLeft]))]) hP hD [0, 1] [] rfl rfl (by decide) (by decide) hk1 hFc hP1 hD1
  generalize H1 = H at hP hS hce ⊢
  replace hP : va_P (dC, dI) vwCl [(h0, .inr (0, [v_documents, v_buffer, v_fetched, v_compared, v_maker, v_writer, .ref hp, .int i_madeDocuments, .int i_fetchedSteps])), (hp, .inr (4, [.int 1, .int p_i_going, .int p_i_writesLeft]))] H := hP
  replace hD : va_D A [(h0, .inr (0, [v_documents, v_buffer, v_fetched, v_compared, v_maker, v_writer, .ref hp, .int i_madeDocuments, .int i_fetchedSteps])), (hp, .inr (4, [.int 1, .int p_i_going, .int p_i_writesLeft]))] := hD
  have hP9 := hP.sub (ws' := [(h0, .inr (0, [v_documents, v_buffer, v_fetched, v_compared, v_maker, v_writer, .ref hp, .int i_madeDocuments, .int i_fetchedSteps])), (hp, .inr (4, [.int 1, .int p_i_going, .int p_i_writesLeft]))]) [0, 1] rfl
  have hD9 := hD.sub (ws' := [(h0, .inr (0, [v_documents, v_buffer, v_fetched, v_compared, v_maker, v_writer, .ref hp, .int i_madeDocuments, .int i_fetchedSteps])), (hp, .inr (4, [.int 1, .int p_i_going, .int p_i_writesLeft]))]) [0, 1] (by decide) rfl
  have hK9 := hK.sub (tys' := []) [] rfl
  exact vx_out (fun x hx => (htab x hx).elim) hlocks hce hcv hcl (fun t ht hvm => ⟨(), trivial, ⟨rfl, by rw [ht]; exact hP9, va_K.moved hvm hK9, hD9⟩, hS.F ht⟩) hS.2.2 (by decide +kernel) (by decide +kernel)
set_option maxHeartbeats 4000000 in
set_option maxRecDepth 100000 in
theorem x_out_D (l : Launch) (hl9 : l.stackTraces = false) (dC : Nat → ClassId) (dI : Nat → Nat → Nat) (sz : Nat) (h0 : Nat) (v_documents : Value) (v_buffer : Value) (v_fetched : Value) (v_compared : Value) (v_maker : Value) (v_writer : Value) (i_madeDocuments : Int32) (i_fetchedSteps : Int32) (hp : Nat) (p_i_going : Int32) (p_i_writesLeft : Int32) (a1 : Int32)  : vx_Met l y_K_out k_K_out ({ frames := 7, cells := 1, slots := 6, locals := 105 } : Room) (va_Pc [.ref h0, .int a1] (fun U => pc_E (dC, dI) [(h0, .inr (0, [v_documents, v_buffer, v_fetched, v_compared, v_maker, v_writer, .ref hp, .int i_madeDocuments, .int i_fetchedSteps])), (hp, .inr (4, [.int 1, .int p_i_going, .int p_i_writesLeft]))] [] sz U ∧ tw_ok U)) (va_Qi (fun (_ : Int32) (_ : Unit) => False) (fun _ _ => True) (va_A [(h0, .inr (0, [v_documents, v_buffer, v_fetched, v_compared, v_maker, v_writer, .ref hp, .int i_madeDocuments, .int i_fetchedSteps])), (hp, .inr (4, [.int 1, .int p_i_going, .int p_i_writesLeft]))] sz)) (vx_X (fun _ : Unit => True) (fun E _ t => E = "java/lang/IllegalStateException" ∧ at_E (dC, dI) (va_A [(h0, .inr (0, [v_documents, v_buffer, v_fetched, v_compared, v_maker, v_writer, .ref hp, .int i_madeDocuments, .int i_fetchedSteps])), (hp, .inr (4, [.int 1, .int p_i_going, .int p_i_writesLeft]))] sz) [(h0, .inr (0, [v_documents, v_buffer, v_fetched, v_compared, v_maker, v_writer, .ref hp, .int i_madeDocuments, .int i_fetchedSteps])), (hp, .inr (4, [.int 1, .int p_i_going, .int p_i_writesLeft]))] [] t) (va_A [(h0, .inr (0, [v_documents, v_buffer, v_fetched, v_compared, v_maker, v_writer, .ref hp, .int i_madeDocuments, .int i_fetchedSteps])), (hp, .inr (4, [.int 1, .int p_i_going, .int p_i_writesLeft]))] sz)) 1 6 (va_A [(h0, .inr (0, [v_documents, v_buffer, v_fetched, v_compared, v_maker, v_writer, .ref hp, .int i_madeDocuments, .int i_fetchedSteps])), (hp, .inr (4, [.int 1, .int p_i_going, .int p_i_writesLeft]))] sz) := by
  refine vx_ofW (cc := prog_1_method_7_code) (maxL := 2) (ret := (some .int)) (by decide) rfl ?_
  intro p e s m args below meth c s₁ B hml htab hv
  obtain ⟨rfl, ⟨hsz, hP, hK, hD0, hN⟩, hTw⟩ := hv
  have hx := B.exec
  have hb := B.bytes
  have hr := B.returns
  have hts := atoms_spec (ws := k_K_out) B.pre
  have hw0 : ∀ w ∈ w0, w.before _ s = true := fun w h => hts w (List.mem_cons_of_mem _ h)
  have hown : s.vm.findClass R_K = some m.cls := findClass_of_methodNamed B.named
  have hlocks := B.notSynchronized
  subst hsz
  have hD := hD0.self (sz := s.heap.size)
  have hTwA := tw_A hTw hP
  generalize hAe : va_A [(h0, .inr (0, [v_documents, v_buffer, v_fetched, v_compared, v_maker, v_writer, .ref hp, .int i_madeDocuments, .int i_fetchedSteps])), (hp, .inr (4, [.int 1, .int p_i_going, .int p_i_writesLeft]))] s.heap.size = A at hD hTwA ⊢
  have hA : ∀ q : Nat, s.heap.size ≤ q → A q := fun q h => by rw [← hAe]; exact Or.inr h
  have hS : va_S A s.heap s.heap [] := va_S.rf
  have hP : va_P (dC, dI) vwCl [(h0, .inr (0, [v_documents, v_buffer, v_fetched, v_compared, v_maker, v_writer, .ref hp, .int i_madeDocuments, .int i_fetchedSteps])), (hp, .inr (4, [.int 1, .int p_i_going, .int p_i_writesLeft]))] s.heap := hP
  have hl := lv_entry ([.ref h0, .int a1]) (n := 2) (Nat.le_of_ble_eq_true rfl)
  rw [lg_entry_eq]
  generalize (lg_sl ([.ref h0, .int a1]) ++ List.replicate (2 - (lg_sl ([.ref h0, .int a1])).length) Slot.unset).toArray = ls at hl ⊢
  have hl : lv_has ls 2 [(0, .ref h0), (1, .int a1)] := hl
  refine lv_aload_n hx hb d_K_out_0 rfl (lv_at hl 0 rfl) ?_
  have hPc := hP.sub (ws' := [(h0, .inr (0, [v_documents, v_buffer, v_fetched, v_compared, v_maker, v_writer, .ref hp, .int i_madeDocuments, .int i_fetchedSteps])), (hp, .inr (4, [.int 1, .int p_i_going, .int p_i_writesLeft]))]) [0, 1] rfl
  have hKc := hK.sub (tys' := []) [] rfl
  have hDc := hD.sub (ws' := [(h0, .inr (0, [v_documents, v_buffer, v_fetched, v_compared, v_maker, v_writer, .ref hp, .int i_madeDocuments, .int i_fetchedSteps])), (hp, .inr (4, [.int 1, .int p_i_going, .int p_i_writesLeft]))]) [0, 1] (by decide) rfl
  have hFc := va_free (wc := [(h0, .inr (0, [v_documents, v_buffer, v_fetched, v_compared, v_maker, v_writer, .ref hp, .int i_madeDocuments, .int i_fetchedSteps])), (hp, .inr (4, [.int 1, .int p_i_going, .int p_i_writesLeft]))]) hD hS hA [0, 1] rfl
  refine vx_callv (vx_runV (As := []) (rest := []) ⟨hx, hb, hml, hown, hw0⟩ (x_needPower l hl9 dC dI s.heap.size h0 v_documents v_buffer v_fetched v_compared v_maker v_writer i_madeDocuments i_fetchedSteps hp p_i_going p_i_writesLeft ) (cwV 0 hw0 (gd_Vm wm_322 wm_323 wm_324 wm_226 wm_325) rfl rfl rfl (by decide +kernel) ⟨by decide +kernel, by decide +kernel⟩) (prV_X hPc hKc hDc hN (hTwA.at hS) (va_recv hKc hPc (ci := 0) (q0 := 0) rfl rfl)) rfl rfl hl.1 rfl (lv_room (Nat.le_of_ble_eq_true rfl)) d_K_out_1 ⟨by decide +kernel, by decide +kernel⟩) hS (fun q _ h => hFc q h) hFc (fun q _ h => hFc q h) (fun E ce q9 u t H1 locs ht hvm hw hB hz1 hk1 hS hce hcv hcl => ?_) (fun u t H1 locs ht hvm hw hB hz1 hk1 hS => False.elim hw)
  obtain ⟨rfl, hP1, hK1, hD1⟩ := hB
  rw [ht] at hP1
  have hK1 := va_K.moved hvm.symm hK1
  obtain ⟨hP, hD⟩ := va_join (wr := []) (w1 := [(h0, .inr (0, [v_documents, v_buffer, v_fetched, v_compared, v_maker, v_writer, .ref hp, .int i_madeDocuments, .int i_fetchedSteps])), (hp, .inr (4, [.int 1, .int p_i_going, .int p_i_writesLeft]))]) hP hD [0, 1] [] rfl rfl (by decide) (by decide) hk1 hFc hP1 hD1
  generalize H1 = H at hP hS hce ⊢
  replace hP : va_P (dC, dI) vwCl [(h0, .inr (0, [v_documents, v_buffer, v_fetched, v_compared, v_maker, v_writer, .ref hp, .int i_madeDocuments, .int i_fetchedSteps])), (hp, .inr (4, [.int 1, .int p_i_going, .int p_i_writesLeft]))] H := hP
  replace hD : va_D A [(h0, .inr (0, [v_documents, v_buffer, v_fetched, v_compared, v_maker, v_writer, .ref hp, .int i_madeDocuments, .int i_fetchedSteps])), (hp, .inr (4, [.int 1, .int p_i_going, .int p_i_writesLeft]))] := hD
  have hP9 := hP.sub (ws' := [(h0, .inr (0, [v_documents, v_buffer, v_fetched, v_compared, v_maker, v_writer, .ref hp, .int i_madeDocuments, .int i_fetchedSteps])), (hp, .inr (4, [.int 1, .int p_i_going, .int p_i_writesLeft]))]) [0, 1] rfl
  have hD9 := hD.sub (ws' := [(h0, .inr (0, [v_documents, v_buffer, v_fetched, v_compared, v_maker, v_writer, .ref hp, .int i_madeDocuments, .int i_fetchedSteps])), (hp, .inr (4, [.int 1, .int p_i_going, .int p_i_writesLeft]))]) [0, 1] (by decide) rfl
  have hK9 := hK.sub (tys' := []) [] rfl
  exact vx_out (fun x hx => (htab x hx).elim) hlocks hce hcv hcl (fun t ht hvm => ⟨(), trivial, ⟨rfl, by rw [ht]; exact hP9, va_K.moved hvm hK9, hD9⟩, hS.F ht⟩) hS.2.2 (by decide +kernel) (by decide +kernel)
set_option maxHeartbeats 4000000 in
set_option maxRecDepth 100000 in
theorem x_steps_D (l : Launch) (hl9 : l.stackTraces = false) (dC : Nat → ClassId) (dI : Nat → Nat → Nat) (sz : Nat) (h0 : Nat) (v_documents : Value) (v_buffer : Value) (v_fetched : Value) (v_compared : Value) (v_maker : Value) (v_writer : Value) (i_madeDocuments : Int32) (i_fetchedSteps : Int32) (hp : Nat) (p_i_going : Int32) (p_i_writesLeft : Int32)  : vx_Met l y_K_steps k_K_steps ({ frames := 7, cells := 1, slots := 6, locals := 105 } : Room) (va_Pc [.ref h0] (fun U => pc_E (dC, dI) [(h0, .inr (0, [v_documents, v_buffer, v_fetched, v_compared, v_maker, v_writer, .ref hp, .int i_madeDocuments, .int i_fetchedSteps])), (hp, .inr (4, [.int 1, .int p_i_going, .int p_i_writesLeft]))] [] sz U ∧ tw_ok U)) (va_Qi (fun (_ : Int32) (_ : Unit) => False) (fun _ _ => True) (va_A [(h0, .inr (0, [v_documents, v_buffer, v_fetched, v_compared, v_maker, v_writer, .ref hp, .int i_madeDocuments, .int i_fetchedSteps])), (hp, .inr (4, [.int 1, .int p_i_going, .int p_i_writesLeft]))] sz)) (vx_X (fun _ : Unit => True) (fun E _ t => E = "java/lang/IllegalStateException" ∧ at_E (dC, dI) (va_A [(h0, .inr (0, [v_documents, v_buffer, v_fetched, v_compared, v_maker, v_writer, .ref hp, .int i_madeDocuments, .int i_fetchedSteps])), (hp, .inr (4, [.int 1, .int p_i_going, .int p_i_writesLeft]))] sz) [(h0, .inr (0, [v_documents, v_buffer, v_fetched, v_compared, v_maker, v_writer, .ref hp, .int i_madeDocuments, .int i_fetchedSteps])), (hp, .inr (4, [.int 1, .int p_i_going, .int p_i_writesLeft]))] [] t) (va_A [(h0, .inr (0, [v_documents, v_buffer, v_fetched, v_compared, v_maker, v_writer, .ref hp, .int i_madeDocuments, .int i_fetchedSteps])), (hp, .inr (4, [.int 1, .int p_i_going, .int p_i_writesLeft]))] sz)) 1 6 (va_A [(h0, .inr (0, [v_documents, v_buffer, v_fetched, v_compared, v_maker, v_writer, .ref hp, .int i_madeDocuments, .int i_fetchedSteps])), (hp, .inr (4, [.int 1, .int p_i_going, .int p_i_writesLeft]))] sz) := by
  refine vx_ofW (cc := prog_1_method_8_code) (maxL := 1) (ret := (some .int)) (by decide) rfl ?_
  intro p e s m args below meth c s₁ B hml htab hv
  obtain ⟨rfl, ⟨hsz, hP, hK, hD0, hN⟩, hTw⟩ := hv
  have hx := B.exec
  have hb := B.bytes
  have hr := B.returns
  have hts := atoms_spec (ws := k_K_steps) B.pre
  have hw0 : ∀ w ∈ w0, w.before _ s = true := fun w h => hts w (List.mem_cons_of_mem _ h)
  have hown : s.vm.findClass R_K = some m.cls := findClass_of_methodNamed B.named
  have hlocks := B.notSynchronized
  subst hsz
  have hD := hD0.self (sz := s.heap.size)
  have hTwA := tw_A hTw hP
  generalize hAe : va_A [(h0, .inr (0, [v_documents, v_buffer, v_fetched, v_compared, v_maker, v_writer, .ref hp, .int i_madeDocuments, .int i_fetchedSteps])), (hp, .inr (4, [.int 1, .int p_i_going, .int p_i_writesLeft]))] s.heap.size = A at hD hTwA ⊢
  have hA : ∀ q : Nat, s.heap.size ≤ q → A q := fun q h => by rw [← hAe]; exact Or.inr h
  have hS : va_S A s.heap s.heap [] := va_S.rf
  have hP : va_P (dC, dI) vwCl [(h0, .inr (0, [v_documents, v_buffer, v_fetched, v_compared, v_maker, v_writer, .ref hp, .int i_madeDocuments, .int i_fetchedSteps])), (hp, .inr (4, [.int 1, .int p_i_going, .int p_i_writesLeft]))] s.heap := hP
  have hl := lv_entry ([.ref h0]) (n := 1) (Nat.le_of_ble_eq_true rfl)
  rw [lg_entry_eq]
  generalize (lg_sl ([.ref h0]) ++ List.replicate (1 - (lg_sl ([.ref h0])).length) Slot.unset).toArray = ls at hl ⊢
  have hl : lv_has ls 1 [(0, .ref h0)] := hl
  refine lv_aload_n hx hb d_K_steps_0 rfl (lv_at hl 0 rfl) ?_
  have hPc := hP.sub (ws' := [(h0, .inr (0, [v_documents, v_buffer, v_fetched, v_compared, v_maker, v_writer, .ref hp, .int i_madeDocuments, .int i_fetchedSteps])), (hp, .inr (4, [.int 1, .int p_i_going, .int p_i_writesLeft]))]) [0, 1] rfl
  have hKc := hK.sub (tys' := []) [] rfl
  have hDc := hD.sub (ws' := [(h0, .inr (0, [v_documents, v_buffer, v_fetched, v_compared, v_maker, v_writer, .ref hp, .int i_madeDocuments, .int i_fetchedSteps])), (hp, .inr (4, [.int 1, .int p_i_going, .int p_i_writesLeft]))]) [0, 1] (by decide) rfl
  have hFc := va_free (wc := [(h0, .inr (0, [v_documents, v_buffer, v_fetched, v_compared, v_maker, v_writer, .ref hp, .int i_madeDocuments, .int i_fetchedSteps])), (hp, .inr (4, [.int 1, .int p_i_going, .int p_i_writesLeft]))]) hD hS hA [0, 1] rfl
  refine vx_callv (vx_runV (As := []) (rest := []) ⟨hx, hb, hml, hown, hw0⟩ (x_needPower l hl9 dC dI s.heap.size h0 v_documents v_buffer v_fetched v_compared v_maker v_writer i_madeDocuments i_fetchedSteps hp p_i_going p_i_writesLeft ) (cwV 0 hw0 (gd_Vm wm_322 wm_323 wm_324 wm_226 wm_325) rfl rfl rfl (by decide +kernel) ⟨by decide +kernel, by decide +kernel⟩) (prV_X hPc hKc hDc hN (hTwA.at hS) (va_recv hKc hPc (ci := 0) (q0 := 0) rfl rfl)) rfl rfl hl.1 rfl (lv_room (Nat.le_of_ble_eq_true rfl)) d_K_steps_1 ⟨by decide +kernel, by decide +kernel⟩) hS (fun q _ h => hFc q h) hFc (fun q _ h => hFc q h) (fun E ce q9 u t H1 locs ht hvm hw hB hz1 hk1 hS hce hcv hcl => ?_) (fun u t H1 locs ht hvm hw hB hz1 hk1 hS => False.elim hw)
  obtain ⟨rfl, hP1, hK1, hD1⟩ := hB
  rw [ht] at hP1
  have hK1 := va_K.moved hvm.symm hK1
  obtain ⟨hP, hD⟩ := va_join (wr := []) (w1 := [(h0, .inr (0, [v_documents, v_buffer, v_fetched, v_compared, v_maker, v_writer, .ref hp, .int i_madeDocuments, .int i_fetchedSteps])), (hp, .inr (4, [.int 1, .int p_i_going, .int p_i_writesLeft]))]) hP hD [0, 1] [] rfl rfl (by decide) (by decide) hk1 hFc hP1 hD1
  generalize H1 = H at hP hS hce ⊢
  replace hP : va_P (dC, dI) vwCl [(h0, .inr (0, [v_documents, v_buffer, v_fetched, v_compared, v_maker, v_writer, .ref hp, .int i_madeDocuments, .int i_fetchedSteps])), (hp, .inr (4, [.int 1, .int p_i_going, .int p_i_writesLeft]))] H := hP
  replace hD : va_D A [(h0, .inr (0, [v_documents, v_buffer, v_fetched, v_compared, v_maker, v_writer, .ref hp, .int i_madeDocuments, .int i_fetchedSteps])), (hp, .inr (4, [.int 1, .int p_i_going, .int p_i_writesLeft]))] := hD
  have hP9 := hP.sub (ws' := [(h0, .inr (0, [v_documents, v_buffer, v_fetched, v_compared, v_maker, v_writer, .ref hp, .int i_madeDocuments, .int i_fetchedSteps])), (hp, .inr (4, [.int 1, .int p_i_going, .int p_i_writesLeft]))]) [0, 1] rfl
  have hD9 := hD.sub (ws' := [(h0, .inr (0, [v_documents, v_buffer, v_fetched, v_compared, v_maker, v_writer, .ref hp, .int i_madeDocuments, .int i_fetchedSteps])), (hp, .inr (4, [.int 1, .int p_i_going, .int p_i_writesLeft]))]) [0, 1] (by decide) rfl
  have hK9 := hK.sub (tys' := []) [] rfl
  exact vx_out (fun x hx => (htab x hx).elim) hlocks hce hcv hcl (fun t ht hvm => ⟨(), trivial, ⟨rfl, by rw [ht]; exact hP9, va_K.moved hvm hK9, hD9⟩, hS.F ht⟩) hS.2.2 (by decide +kernel) (by decide +kernel)
set_option maxHeartbeats 4000000 in
set_option maxRecDepth 100000 in
theorem x_trim_D (l : Launch) (hl9 : l.stackTraces = false) (dC : Nat → ClassId) (dI : Nat → Nat → Nat) (sz : Nat) (h0 : Nat) (v_documents : Value) (v_buffer : Value) (v_fetched : Value) (v_compared : Value) (v_maker : Value) (v_writer : Value) (i_madeDocuments : Int32) (i_fetchedSteps : Int32) (hp : Nat) (p_i_going : Int32) (p_i_writesLeft : Int32) (a1 : Int32) (a2 : Int32)  : vx_Met l y_K_trim k_K_trim ({ frames := 7, cells := 1, slots := 6, locals := 105 } : Room) (va_Pc [.ref h0, .int a1, .int a2] (fun U => pc_E (dC, dI) [(h0, .inr (0, [v_documents, v_buffer, v_fetched, v_compared, v_maker, v_writer, .ref hp, .int i_madeDocuments, .int i_fetchedSteps])), (hp, .inr (4, [.int 1, .int p_i_going, .int p_i_writesLeft]))] [] sz U ∧ tw_ok U)) (va_Qi (fun (_ : Int32) (_ : Unit) => False) (fun _ _ => True) (va_A [(h0, .inr (0, [v_documents, v_buffer, v_fetched, v_compared, v_maker, v_writer, .ref hp, .int i_madeDocuments, .int i_fetchedSteps])), (hp, .inr (4, [.int 1, .int p_i_going, .int p_i_writesLeft]))] sz)) (vx_X (fun _ : Unit => True) (fun E _ t => E = "java/lang/IllegalStateException" ∧ at_E (dC, dI) (va_A [(h0, .inr (0, [v_documents, v_buffer, v_fetched, v_compared, v_maker, v_writer, .ref hp, .int i_madeDocuments, .int i_fetchedSteps])), (hp, .inr (4, [.int 1, .int p_i_going, .int p_i_writesLeft]))] sz) [(h0, .inr (0, [v_documents, v_buffer, v_fetched, v_compared, v_maker, v_writer, .ref hp, .int i_madeDocuments, .int i_fetchedSteps])), (hp, .inr (4, [.int 1, .int p_i_going, .int p_i_writesLeft]))] [] t) (va_A [(h0, .inr (0, [v_documents, v_buffer, v_fetched, v_compared, v_maker, v_writer, .ref hp, .int i_madeDocuments, .int i_fetchedSteps])), (hp, .inr (4, [.int 1, .int p_i_going, .int p_i_writesLeft]))] sz)) 1 6 (va_A [(h0, .inr (0, [v_documents, v_buffer, v_fetched, v_compared, v_maker, v_writer, .ref hp, .int i_madeDocuments, .int i_fetchedSteps])), (hp, .inr (4, [.int 1, .int p_i_going, .int p_i_writesLeft]))] sz) := by
  refine vx_ofW (cc := prog_1_method_9_code) (maxL := 4) (ret := (some .boolean)) (by decide) rfl ?_
  intro p e s m args below meth c s₁ B hml htab hv
  obtain ⟨rfl, ⟨hsz, hP, hK, hD0, hN⟩, hTw⟩ := hv
  have hx := B.exec
  have hb := B.bytes
  have hr := B.returns
  have hts := atoms_spec (ws := k_K_trim) B.pre
  have hw0 : ∀ w ∈ w0, w.before _ s = true := fun w h => hts w (List.mem_cons_of_mem _ h)
  have hown : s.vm.findClass R_K = some m.cls := findClass_of_methodNamed B.named
  have hlocks := B.notSynchronized
  subst hsz
  have hD := hD0.self (sz := s.heap.size)
  have hTwA := tw_A hTw hP
  generalize hAe : va_A [(h0, .inr (0, [v_documents, v_buffer, v_fetched, v_compared, v_maker, v_writer, .ref hp, .int i_madeDocuments, .int i_fetchedSteps])), (hp, .inr (4, [.int 1, .int p_i_going, .int p_i_writesLeft]))] s.heap.size = A at hD hTwA ⊢
  have hA : ∀ q : Nat, s.heap.size ≤ q → A q := fun q h => by rw [← hAe]; exact Or.inr h
  have hS : va_S A s.heap s.heap [] := va_S.rf
  have hP : va_P (dC, dI) vwCl [(h0, .inr (0, [v_documents, v_buffer, v_fetched, v_compared, v_maker, v_writer, .ref hp, .int i_madeDocuments, .int i_fetchedSteps])), (hp, .inr (4, [.int 1, .int p_i_going, .int p_i_writesLeft]))] s.heap := hP
  have hl := lv_entry ([.ref h0, .int a1, .int a2]) (n := 4) (Nat.le_of_ble_eq_true rfl)
  rw [lg_entry_eq]
  generalize (lg_sl ([.ref h0, .int a1, .int a2]) ++ List.replicate (4 - (lg_sl ([.ref h0, .int a1, .int a2])).length) Slot.unset).toArray = ls at hl ⊢
  have hl : lv_has ls 4 [(0, .ref h0), (1, .int a1), (2, .int a2)] := hl
  refine lv_aload_n hx hb d_K_trim_0 rfl (lv_at hl 0 rfl) ?_
  have hPc := hP.sub (ws' := [(h0, .inr (0, [v_documents, v_buffer, v_fetched, v_compared, v_maker, v_writer, .ref hp, .int i_madeDocuments, .int i_fetchedSteps])), (hp, .inr (4, [.int 1, .int p_i_going, .int p_i_writesLeft]))]) [0, 1] rfl
  have hKc := hK.sub (tys' := []) [] rfl
  have hDc := hD.sub (ws' := [(h0, .inr (0, [v_documents, v_buffer, v_fetched, v_compared, v_maker, v_writer, .ref hp, .int i_madeDocuments, .int i_fetchedSteps])), (hp, .inr (4, [.int 1, .int p_i_going, .int p_i_writesLeft]))]) [0, 1] (by decide) rfl
  have hFc := va_free (wc := [(h0, .inr (0, [v_documents, v_buffer, v_fetched, v_compared, v_maker, v_writer, .ref hp, .int i_madeDocuments, .int i_fetchedSteps])), (hp, .inr (4, [.int 1, .int p_i_going, .int p_i_writesLeft]))]) hD hS hA [0, 1] rfl
  refine vx_callv (vx_runV (As := []) (rest := []) ⟨hx, hb, hml, hown, hw0⟩ (x_needPower l hl9 dC dI s.heap.size h0 v_documents v_buffer v_fetched v_compared v_maker v_writer i_madeDocuments i_fetchedSteps hp p_i_going p_i_writesLeft ) (cwV 0 hw0 (gd_Vm wm_322 wm_323 wm_324 wm_226 wm_325) rfl rfl rfl (by decide +kernel) ⟨by decide +kernel, by decide +kernel⟩) (prV_X hPc hKc hDc hN (hTwA.at hS) (va_recv hKc hPc (ci := 0) (q0 := 0) rfl rfl)) rfl rfl hl.1 rfl (lv_room (Nat.le_of_ble_eq_true rfl)) d_K_trim_1 ⟨by decide +kernel, by decide +kernel⟩) hS (fun q _ h => hFc q h) hFc (fun q _ h => hFc q h) (fun E ce q9 u t H1 locs ht hvm hw hB hz1 hk1 hS hce hcv hcl => ?_) (fun u t H1 locs ht hvm hw hB hz1 hk1 hS => False.elim hw)
  obtain ⟨rfl, hP1, hK1, hD1⟩ := hB
  rw [ht] at hP1
  have hK1 := va_K.moved hvm.symm hK1
  obtain ⟨hP, hD⟩ := va_join (wr := []) (w1 := [(h0, .inr (0, [v_documents, v_buffer, v_fetched, v_compared, v_maker, v_writer, .ref hp, .int i_madeDocuments, .int i_fetchedSteps])), (hp, .inr (4, [.int 1, .int p_i_going, .int p_i_writesLeft]))]) hP hD [0, 1] [] rfl rfl (by decide) (by decide) hk1 hFc hP1 hD1
  generalize H1 = H at hP hS hce ⊢
  replace hP : va_P (dC, dI) vwCl [(h0, .inr (0, [v_documents, v_buffer, v_fetched, v_compared, v_maker, v_writer, .ref hp, .int i_madeDocuments, .int i_fetchedSteps])), (hp, .inr (4, [.int 1, .int p_i_going, .int p_i_writesLeft]))] H := hP
  replace hD : va_D A [(h0, .inr (0, [v_documents, v_buffer, v_fetched, v_compared, v_maker, v_writer, .ref hp, .int i_madeDocuments, .int i_fetchedSteps])), (hp, .inr (4, [.int 1, .int p_i_going, .int p_i_writesLeft]))] := hD
  have hP9 := hP.sub (ws' := [(h0, .inr (0, [v_documents, v_buffer, v_fetched, v_compared, v_maker, v_writer, .ref hp, .int i_madeDocuments, .int i_fetchedSteps])), (hp, .inr (4, [.int 1, .int p_i_going, .int p_i_writesLeft]))]) [0, 1] rfl
  have hD9 := hD.sub (ws' := [(h0, .inr (0, [v_documents, v_buffer, v_fetched, v_compared, v_maker, v_writer, .ref hp, .int i_madeDocuments, .int i_fetchedSteps])), (hp, .inr (4, [.int 1, .int p_i_going, .int p_i_writesLeft]))]) [0, 1] (by decide) rfl
  have hK9 := hK.sub (tys' := []) [] rfl
  exact vx_out (fun x hx => (htab x hx).elim) hlocks hce hcv hcl (fun t ht hvm => ⟨(), trivial, ⟨rfl, by rw [ht]; exact hP9, va_K.moved hvm hK9, hD9⟩, hS.F ht⟩) hS.2.2 (by decide +kernel) (by decide +kernel)
set_option maxHeartbeats 4000000 in
set_option maxRecDepth 100000 in
theorem x_dropDocument_D (l : Launch) (hl9 : l.stackTraces = false) (dC : Nat → ClassId) (dI : Nat → Nat → Nat) (sz : Nat) (h0 : Nat) (v_documents : Value) (v_buffer : Value) (v_fetched : Value) (v_compared : Value) (v_maker : Value) (v_writer : Value) (i_madeDocuments : Int32) (i_fetchedSteps : Int32) (hp : Nat) (p_i_going : Int32) (p_i_writesLeft : Int32) (a1 : Int32)  : vx_Met l y_K_dropDocument k_K_dropDocument ({ frames := 7, cells := 1, slots := 6, locals := 105 } : Room) (va_Pc [.ref h0, .int a1] (fun U => pc_E (dC, dI) [(h0, .inr (0, [v_documents, v_buffer, v_fetched, v_compared, v_maker, v_writer, .ref hp, .int i_madeDocuments, .int i_fetchedSteps])), (hp, .inr (4, [.int 1, .int p_i_going, .int p_i_writesLeft]))] [] sz U ∧ tw_ok U)) (va_Qi (fun (_ : Int32) (_ : Unit) => False) (fun _ _ => True) (va_A [(h0, .inr (0, [v_documents, v_buffer, v_fetched, v_compared, v_maker, v_writer, .ref hp, .int i_madeDocuments, .int i_fetchedSteps])), (hp, .inr (4, [.int 1, .int p_i_going, .int p_i_writesLeft]))] sz)) (vx_X (fun _ : Unit => True) (fun E _ t => E = "java/lang/IllegalStateException" ∧ at_E (dC, dI) (va_A [(h0, .inr (0, [v_documents, v_buffer, v_fetched, v_compared, v_maker, v_writer, .ref hp, .int i_madeDocuments, .int i_fetchedSteps])), (hp, .inr (4, [.int 1, .int p_i_going, .int p_i_writesLeft]))] sz) [(h0, .inr (0, [v_documents, v_buffer, v_fetched, v_compared, v_maker, v_writer, .ref hp, .int i_madeDocuments, .int i_fetchedSteps])), (hp, .inr (4, [.int 1, .int p_i_going, .int p_i_writesLeft]))] [] t) (va_A [(h0, .inr (0, [v_documents, v_buffer, v_fetched, v_compared, v_maker, v_writer, .ref hp, .int i_madeDocuments, .int i_fetchedSteps])), (hp, .inr (4, [.int 1, .int p_i_going, .int p_i_writesLeft]))] sz)) 1 6 (va_A [(h0, .inr (0, [v_documents, v_buffer, v_fetched, v_compared, v_maker, v_writer, .ref hp, .int i_madeDocuments, .int i_fetchedSteps])), (hp, .inr (4, [.int 1, .int p_i_going, .int p_i_writesLeft]))] sz) := by
  refine vx_ofW (cc := prog_1_method_10_code) (maxL := 2) (ret := (some .boolean)) (by decide) rfl ?_
  intro p e s m args below meth c s₁ B hml htab hv
  obtain ⟨rfl, ⟨hsz, hP, hK, hD0, hN⟩, hTw⟩ := hv
  have hx := B.exec
  have hb := B.bytes
  have hr := B.returns
  have hts := atoms_spec (ws := k_K_dropDocument) B.pre
  have hw0 : ∀ w ∈ w0, w.before _ s = true := fun w h => hts w (List.mem_cons_of_mem _ h)
  have hown : s.vm.findClass R_K = some m.cls := findClass_of_methodNamed B.named
  have hlocks := B.notSynchronized
  subst hsz
  have hD := hD0.self (sz := s.heap.size)
  have hTwA := tw_A hTw hP
  generalize hAe : va_A [(h0, .inr (0, [v_documents, v_buffer, v_fetched, v_compared, v_maker, v_writer, .ref hp, .int i_madeDocuments, .int i_fetchedSteps])), (hp, .inr (4, [.int 1, .int p_i_going, .int p_i_writesLeft]))] s.heap.size = A at hD hTwA ⊢
  have hA : ∀ q : Nat, s.heap.size ≤ q → A q := fun q h => by rw [← hAe]; exact Or.inr h
  have hS : va_S A s.heap s.heap [] := va_S.rf
  have hP : va_P (dC, dI) vwCl [(h0, .inr (0, [v_documents, v_buffer, v_fetched, v_compared, v_maker, v_writer, .ref hp, .int i_madeDocuments, .int i_fetchedSteps])), (hp, .inr (4, [.int 1, .int p_i_going, .int p_i_writesLeft]))] s.heap := hP
  have hl := lv_entry ([.ref h0, .int a1]) (n := 2) (Nat.le_of_ble_eq_true rfl)
  rw [lg_entry_eq]
  generalize (lg_sl ([.ref h0, .int a1]) ++ List.replicate (2 - (lg_sl ([.ref h0, .int a1])).length) Slot.unset).toArray = ls at hl ⊢
  have hl : lv_has ls 2 [(0, .ref h0), (1, .int a1)] := hl
  refine lv_aload_n hx hb d_K_dropDocument_0 rfl (lv_at hl 0 rfl) ?_
  have hPc := hP.sub (ws' := [(h0, .inr (0, [v_documents, v_buffer, v_fetched, v_compared, v_maker, v_writer, .ref hp, .int i_madeDocuments, .int i_fetchedSteps])), (hp, .inr (4, [.int 1, .int p_i_going, .int p_i_writesLeft]))]) [0, 1] rfl
  have hKc := hK.sub (tys' := []) [] rfl
  have hDc := hD.sub (ws' := [(h0, .inr (0, [v_documents, v_buffer, v_fetched, v_compared, v_maker, v_writer, .ref hp, .int i_madeDocuments, .int i_fetchedSteps])), (hp, .inr (4, [.int 1, .int p_i_going, .int p_i_writesLeft]))]) [0, 1] (by decide) rfl
  have hFc := va_free (wc := [(h0, .inr (0, [v_documents, v_buffer, v_fetched, v_compared, v_maker, v_writer, .ref hp, .int i_madeDocuments, .int i_fetchedSteps])), (hp, .inr (4, [.int 1, .int p_i_going, .int p_i_writesLeft]))]) hD hS hA [0, 1] rfl
  refine vx_callv (vx_runV (As := []) (rest := []) ⟨hx, hb, hml, hown, hw0⟩ (x_needPower l hl9 dC dI s.heap.size h0 v_documents v_buffer v_fetched v_compared v_maker v_writer i_madeDocuments i_fetchedSteps hp p_i_going p_i_writesLeft ) (cwV 0 hw0 (gd_Vm wm_322 wm_323 wm_324 wm_226 wm_325) rfl rfl rfl (by decide +kernel) ⟨by decide +kernel, by decide +kernel⟩) (prV_X hPc hKc hDc hN (hTwA.at hS) (va_recv hKc hPc (ci := 0) (q0 := 0) rfl rfl)) rfl rfl hl.1 rfl (lv_room (Nat.le_of_ble_eq_true rfl)) d_K_dropDocument_1 ⟨by decide +kernel, by decide +kernel⟩) hS (fun q _ h => hFc q h) hFc (fun q _ h => hFc q h) (fun E ce q9 u t H1 locs ht hvm hw hB hz1 hk1 hS hce hcv hcl => ?_) (fun u t H1 locs ht hvm hw hB hz1 hk1 hS => False.elim hw)
  obtain ⟨rfl, hP1, hK1, hD1⟩ := hB
  rw [ht] at hP1
  have hK1 := va_K.moved hvm.symm hK1
  obtain ⟨hP, hD⟩ := va_join (wr := []) (w1 := [(h0, .inr (0, [v_documents, v_buffer, v_fetched, v_compared, v_maker, v_writer, .ref hp, .int i_madeDocuments, .int i_fetchedSteps])), (hp, .inr (4, [.int 1, .int p_i_going, .int p_i_writesLeft]))]) hP hD [0, 1] [] rfl rfl (by decide) (by decide) hk1 hFc hP1 hD1
  generalize H1 = H at hP hS hce ⊢
  replace hP : va_P (dC, dI) vwCl [(h0, .inr (0, [v_documents, v_buffer, v_fetched, v_compared, v_maker, v_writer, .ref hp, .int i_madeDocuments, .int i_fetchedSteps])), (hp, .inr (4, [.int 1, .int p_i_going, .int p_i_writesLeft]))] H := hP
  replace hD : va_D A [(h0, .inr (0, [v_documents, v_buffer, v_fetched, v_compared, v_maker, v_writer, .ref hp, .int i_madeDocuments, .int i_fetchedSteps])), (hp, .inr (4, [.int 1, .int p_i_going, .int p_i_writesLeft]))] := hD
  have hP9 := hP.sub (ws' := [(h0, .inr (0, [v_documents, v_buffer, v_fetched, v_compared, v_maker, v_writer, .ref hp, .int i_madeDocuments, .int i_fetchedSteps])), (hp, .inr (4, [.int 1, .int p_i_going, .int p_i_writesLeft]))]) [0, 1] rfl
  have hD9 := hD.sub (ws' := [(h0, .inr (0, [v_documents, v_buffer, v_fetched, v_compared, v_maker, v_writer, .ref hp, .int i_madeDocuments, .int i_fetchedSteps])), (hp, .inr (4, [.int 1, .int p_i_going, .int p_i_writesLeft]))]) [0, 1] (by decide) rfl
  have hK9 := hK.sub (tys' := []) [] rfl
  exact vx_out (fun x hx => (htab x hx).elim) hlocks hce hcv hcl (fun t ht hvm => ⟨(), trivial, ⟨rfl, by rw [ht]; exact hP9, va_K.moved hvm hK9, hD9⟩, hS.F ht⟩) hS.2.2 (by decide +kernel) (by decide +kernel)
set_option maxHeartbeats 4000000 in
set_option maxRecDepth 100000 in
theorem x_about_D (l : Launch) (hl9 : l.stackTraces = false) (dC : Nat → ClassId) (dI : Nat → Nat → Nat) (sz : Nat) (h0 : Nat) (v_documents : Value) (v_buffer : Value) (v_fetched : Value) (v_compared : Value) (v_maker : Value) (v_writer : Value) (i_madeDocuments : Int32) (i_fetchedSteps : Int32) (hp : Nat) (p_i_going : Int32) (p_i_writesLeft : Int32) (a1 : Int32) (a2 : Int32)  : vx_Met l y_K_about k_K_about ({ frames := 7, cells := 1, slots := 6, locals := 105 } : Room) (va_Pc [.ref h0, .int a1, .int a2] (fun U => pc_E (dC, dI) [(h0, .inr (0, [v_documents, v_buffer, v_fetched, v_compared, v_maker, v_writer, .ref hp, .int i_madeDocuments, .int i_fetchedSteps])), (hp, .inr (4, [.int 1, .int p_i_going, .int p_i_writesLeft]))] [] sz U ∧ tw_ok U)) (va_Qi (fun (_ : Int32) (_ : Unit) => False) (fun _ _ => True) (va_A [(h0, .inr (0, [v_documents, v_buffer, v_fetched, v_compared, v_maker, v_writer, .ref hp, .int i_madeDocuments, .int i_fetchedSteps])), (hp, .inr (4, [.int 1, .int p_i_going, .int p_i_writesLeft]))] sz)) (vx_X (fun _ : Unit => True) (fun E _ t => E = "java/lang/IllegalStateException" ∧ at_E (dC, dI) (va_A [(h0, .inr (0, [v_documents, v_buffer, v_fetched, v_compared, v_maker, v_writer, .ref hp, .int i_madeDocuments, .int i_fetchedSteps])), (hp, .inr (4, [.int 1, .int p_i_going, .int p_i_writesLeft]))] sz) [(h0, .inr (0, [v_documents, v_buffer, v_fetched, v_compared, v_maker, v_writer, .ref hp, .int i_madeDocuments, .int i_fetchedSteps])), (hp, .inr (4, [.int 1, .int p_i_going, .int p_i_writesLeft]))] [] t) (va_A [(h0, .inr (0, [v_documents, v_buffer, v_fetched, v_compared, v_maker, v_writer, .ref hp, .int i_madeDocuments, .int i_fetchedSteps])), (hp, .inr (4, [.int 1, .int p_i_going, .int p_i_writesLeft]))] sz)) 1 6 (va_A [(h0, .inr (0, [v_documents, v_buffer, v_fetched, v_compared, v_maker, v_writer, .ref hp, .int i_madeDocuments, .int i_fetchedSteps])), (hp, .inr (4, [.int 1, .int p_i_going, .int p_i_writesLeft]))] sz) := by
  refine vx_ofW (cc := prog_1_method_11_code) (maxL := 4) (ret := (some .int)) (by decide) rfl ?_
  intro p e s m args below meth c s₁ B hml htab hv
  obtain ⟨rfl, ⟨hsz, hP, hK, hD0, hN⟩, hTw⟩ := hv
  have hx := B.exec
  have hb := B.bytes
  have hr := B.returns
  have hts := atoms_spec (ws := k_K_about) B.pre
  have hw0 : ∀ w ∈ w0, w.before _ s = true := fun w h => hts w (List.mem_cons_of_mem _ h)
  have hown : s.vm.findClass R_K = some m.cls := findClass_of_methodNamed B.named
  have hlocks := B.notSynchronized
  subst hsz
  have hD := hD0.self (sz := s.heap.size)
  have hTwA := tw_A hTw hP
  generalize hAe : va_A [(h0, .inr (0, [v_documents, v_buffer, v_fetched, v_compared, v_maker, v_writer, .ref hp, .int i_madeDocuments, .int i_fetchedSteps])), (hp, .inr (4, [.int 1, .int p_i_going, .int p_i_writesLeft]))] s.heap.size = A at hD hTwA ⊢
  have hA : ∀ q : Nat, s.heap.size ≤ q → A q := fun q h => by rw [← hAe]; exact Or.inr h
  have hS : va_S A s.heap s.heap [] := va_S.rf
  have hP : va_P (dC, dI) vwCl [(h0, .inr (0, [v_documents, v_buffer, v_fetched, v_compared, v_maker, v_writer, .ref hp, .int i_madeDocuments, .int i_fetchedSteps])), (hp, .inr (4, [.int 1, .int p_i_going, .int p_i_writesLeft]))] s.heap := hP
  have hl := lv_entry ([.ref h0, .int a1, .int a2]) (n := 4) (Nat.le_of_ble_eq_true rfl)
  rw [lg_entry_eq]
  generalize (lg_sl ([.ref h0, .int a1, .int a2]) ++ List.replicate (4 - (lg_sl ([.ref h0, .int a1, .int a2])).length) Slot.unset).toArray = ls at hl ⊢
  have hl : lv_has ls 4 [(0, .ref h0), (1, .int a1), (2, .int a2)] := hl
  refine lv_aload_n hx hb d_K_about_0 rfl (lv_at hl 0 rfl) ?_
  have hPc := hP.sub (ws' := [(h0, .inr (0, [v_documents, v_buffer, v_fetched, v_compared, v_maker, v_writer, .ref hp, .int i_madeDocuments, .int i_fetchedSteps])), (hp, .inr (4, [.int 1, .int p_i_going, .int p_i_writesLeft]))]) [0, 1] rfl
  have hKc := hK.sub (tys' := []) [] rfl
  have hDc := hD.sub (ws' := [(h0, .inr (0, [v_documents, v_buffer, v_fetched, v_compared, v_maker, v_writer, .ref hp, .int i_madeDocuments, .int i_fetchedSteps])), (hp, .inr (4, [.int 1, .int p_i_going, .int p_i_writesLeft]))]) [0, 1] (by decide) rfl
  have hFc := va_free (wc := [(h0, .inr (0, [v_documents, v_buffer, v_fetched, v_compared, v_maker, v_writer, .ref hp, .int i_madeDocuments, .int i_fetchedSteps])), (hp, .inr (4, [.int 1, .int p_i_going, .int p_i_writesLeft]))]) hD hS hA [0, 1] rfl
  refine vx_callv (vx_runV (As := []) (rest := []) ⟨hx, hb, hml, hown, hw0⟩ (x_needPower l hl9 dC dI s.heap.size h0 v_documents v_buffer v_fetched v_compared v_maker v_writer i_madeDocuments i_fetchedSteps hp p_i_going p_i_writesLeft ) (cwV 0 hw0 (gd_Vm wm_322 wm_323 wm_324 wm_226 wm_325) rfl rfl rfl (by decide +kernel) ⟨by decide +kernel, by decide +kernel⟩) (prV_X hPc hKc hDc hN (hTwA.at hS) (va_recv hKc hPc (ci := 0) (q0 := 0) rfl rfl)) rfl rfl hl.1 rfl (lv_room (Nat.le_of_ble_eq_true rfl)) d_K_about_1 ⟨by decide +kernel, by decide +kernel⟩) hS (fun q _ h => hFc q h) hFc (fun q _ h => hFc q h) (fun E ce q9 u t H1 locs ht hvm hw hB hz1 hk1 hS hce hcv hcl => ?_) (fun u t H1 locs ht hvm hw hB hz1 hk1 hS => False.elim hw)
  obtain ⟨rfl, hP1, hK1, hD1⟩ := hB
  rw [ht] at hP1
  have hK1 := va_K.moved hvm.symm hK1
  obtain ⟨hP, hD⟩ := va_join (wr := []) (w1 := [(h0, .inr (0, [v_documents, v_buffer, v_fetched, v_compared, v_maker, v_writer, .ref hp, .int i_madeDocuments, .int i_fetchedSteps])), (hp, .inr (4, [.int 1, .int p_i_going, .int p_i_writesLeft]))]) hP hD [0, 1] [] rfl rfl (by decide) (by decide) hk1 hFc hP1 hD1
  generalize H1 = H at hP hS hce ⊢
  replace hP : va_P (dC, dI) vwCl [(h0, .inr (0, [v_documents, v_buffer, v_fetched, v_compared, v_maker, v_writer, .ref hp, .int i_madeDocuments, .int i_fetchedSteps])), (hp, .inr (4, [.int 1, .int p_i_going, .int p_i_writesLeft]))] H := hP
  replace hD : va_D A [(h0, .inr (0, [v_documents, v_buffer, v_fetched, v_compared, v_maker, v_writer, .ref hp, .int i_madeDocuments, .int i_fetchedSteps])), (hp, .inr (4, [.int 1, .int p_i_going, .int p_i_writesLeft]))] := hD
  have hP9 := hP.sub (ws' := [(h0, .inr (0, [v_documents, v_buffer, v_fetched, v_compared, v_maker, v_writer, .ref hp, .int i_madeDocuments, .int i_fetchedSteps])), (hp, .inr (4, [.int 1, .int p_i_going, .int p_i_writesLeft]))]) [0, 1] rfl
  have hD9 := hD.sub (ws' := [(h0, .inr (0, [v_documents, v_buffer, v_fetched, v_compared, v_maker, v_writer, .ref hp, .int i_madeDocuments, .int i_fetchedSteps])), (hp, .inr (4, [.int 1, .int p_i_going, .int p_i_writesLeft]))]) [0, 1] (by decide) rfl
  have hK9 := hK.sub (tys' := []) [] rfl
  exact vx_out (fun x hx => (htab x hx).elim) hlocks hce hcv hcl (fun t ht hvm => ⟨(), trivial, ⟨rfl, by rw [ht]; exact hP9, va_K.moved hvm hK9, hD9⟩, hS.F ht⟩) hS.2.2 (by decide +kernel) (by decide +kernel)
set_option maxHeartbeats 4000000 in
set_option maxRecDepth 100000 in
theorem x_revision_D (l : Launch) (hl9 : l.stackTraces = false) (dC : Nat → ClassId) (dI : Nat → Nat → Nat) (sz : Nat) (h0 : Nat) (v_documents : Value) (v_buffer : Value) (v_fetched : Value) (v_compared : Value) (v_maker : Value) (v_writer : Value) (i_madeDocuments : Int32) (i_fetchedSteps : Int32) (hp : Nat) (p_i_going : Int32) (p_i_writesLeft : Int32) (a1 : Int32) (a2 : Int32) (a3 : Int32)  : vx_Met l y_K_revision k_K_revision ({ frames := 7, cells := 1, slots := 6, locals := 105 } : Room) (va_Pc [.ref h0, .int a1, .int a2, .int a3] (fun U => pc_E (dC, dI) [(h0, .inr (0, [v_documents, v_buffer, v_fetched, v_compared, v_maker, v_writer, .ref hp, .int i_madeDocuments, .int i_fetchedSteps])), (hp, .inr (4, [.int 1, .int p_i_going, .int p_i_writesLeft]))] [] sz U ∧ tw_ok U)) (va_Qi (fun (_ : Int32) (_ : Unit) => False) (fun _ _ => True) (va_A [(h0, .inr (0, [v_documents, v_buffer, v_fetched, v_compared, v_maker, v_writer, .ref hp, .int i_madeDocuments, .int i_fetchedSteps])), (hp, .inr (4, [.int 1, .int p_i_going, .int p_i_writesLeft]))] sz)) (vx_X (fun _ : Unit => True) (fun E _ t => E = "java/lang/IllegalStateException" ∧ at_E (dC, dI) (va_A [(h0, .inr (0, [v_documents, v_buffer, v_fetched, v_compared, v_maker, v_writer, .ref hp, .int i_madeDocuments, .int i_fetchedSteps])), (hp, .inr (4, [.int 1, .int p_i_going, .int p_i_writesLeft]))] sz) [(h0, .inr (0, [v_documents, v_buffer, v_fetched, v_compared, v_maker, v_writer, .ref hp, .int i_madeDocuments, .int i_fetchedSteps])), (hp, .inr (4, [.int 1, .int p_i_going, .int p_i_writesLeft]))] [] t) (va_A [(h0, .inr (0, [v_documents, v_buffer, v_fetched, v_compared, v_maker, v_writer, .ref hp, .int i_madeDocuments, .int i_fetchedSteps])), (hp, .inr (4, [.int 1, .int p_i_going, .int p_i_writesLeft]))] sz)) 1 6 (va_A [(h0, .inr (0, [v_documents, v_buffer, v_fetched, v_compared, v_maker, v_writer, .ref hp, .int i_madeDocuments, .int i_fetchedSteps])), (hp, .inr (4, [.int 1, .int p_i_going, .int p_i_writesLeft]))] sz) := by
  refine vx_ofW (cc := prog_1_method_12_code) (maxL := 7) (ret := (some .int)) (by decide) rfl ?_
  intro p e s m args below meth c s₁ B hml htab hv
  obtain ⟨rfl, ⟨hsz, hP, hK, hD0, hN⟩, hTw⟩ := hv
  have hx := B.exec
  have hb := B.bytes
  have hr := B.returns
  have hts := atoms_spec (ws := k_K_revision) B.pre
  have hw0 : ∀ w ∈ w0, w.before _ s = true := fun w h => hts w (List.mem_cons_of_mem _ h)
  have hown : s.vm.findClass R_K = some m.cls := findClass_of_methodNamed B.named
  have hlocks := B.notSynchronized
  subst hsz
  have hD := hD0.self (sz := s.heap.size)
  have hTwA := tw_A hTw hP
  generalize hAe : va_A [(h0, .inr (0, [v_documents, v_buffer, v_fetched, v_compared, v_maker, v_writer, .ref hp, .int i_madeDocuments, .int i_fetchedSteps])), (hp, .inr (4, [.int 1, .int p_i_going, .int p_i_writesLeft]))] s.heap.size = A at hD hTwA ⊢
  have hA : ∀ q : Nat, s.heap.size ≤ q → A q := fun q h => by rw [← hAe]; exact Or.inr h
  have hS : va_S A s.heap s.heap [] := va_S.rf
  have hP : va_P (dC, dI) vwCl [(h0, .inr (0, [v_documents, v_buffer, v_fetched, v_compared, v_maker, v_writer, .ref hp, .int i_madeDocuments, .int i_fetchedSteps])), (hp, .inr (4, [.int 1, .int p_i_going, .int p_i_writesLeft]))] s.heap := hP
  have hl := lv_entry ([.ref h0, .int a1, .int a2, .int a3]) (n := 7) (Nat.le_of_ble_eq_true rfl)
  rw [lg_entry_eq]
  generalize (lg_sl ([.ref h0, .int a1, .int a2, .int a3]) ++ List.replicate (7 - (lg_sl ([.ref h0, .int a1, .int a2, .int a3])).length) Slot.unset).toArray = ls at hl ⊢
  have hl : lv_has ls 7 [(0, .ref h0), (1, .int a1), (2, .int a2), (3, .int a3)] := hl
  refine lv_aload_n hx hb d_K_revision_0 rfl (lv_at hl 0 rfl) ?_
  have hPc := hP.sub (ws' := [(h0, .inr (0, [v_documents, v_buffer, v_fetched, v_compared, v_maker, v_writer, .ref hp, .int i_madeDocuments, .int i_fetchedSteps])), (hp, .inr (4, [.int 1, .int p_i_going, .int p_i_writesLeft]))]) [0, 1] rfl
  have hKc := hK.sub (tys' := []) [] rfl
  have hDc := hD.sub (ws' := [(h0, .inr (0, [v_documents, v_buffer, v_fetched, v_compared, v_maker, v_writer, .ref hp, .int i_madeDocuments, .int i_fetchedSteps])), (hp, .inr (4, [.int 1, .int p_i_going, .int p_i_writesLeft]))]) [0, 1] (by decide) rfl
  have hFc := va_free (wc := [(h0, .inr (0, [v_documents, v_buffer, v_fetched, v_compared, v_maker, v_writer, .ref hp, .int i_madeDocuments, .int i_fetchedSteps])), (hp, .inr (4, [.int 1, .int p_i_going, .int p_i_writesLeft]))]) hD hS hA [0, 1] rfl
  refine vx_callv (vx_runV (As := []) (rest := []) ⟨hx, hb, hml, hown, hw0⟩ (x_needPower l hl9 dC dI s.heap.size h0 v_documents v_buffer v_fetched v_compared v_maker v_writer i_madeDocuments i_fetchedSteps hp p_i_going p_i_writesLeft ) (cwV 0 hw0 (gd_Vm wm_322 wm_323 wm_324 wm_226 wm_325) rfl rfl rfl (by decide +kernel) ⟨by decide +kernel, by decide +kernel⟩) (prV_X hPc hKc hDc hN (hTwA.at hS) (va_recv hKc hPc (ci := 0) (q0 := 0) rfl rfl)) rfl rfl hl.1 rfl (lv_room (Nat.le_of_ble_eq_true rfl)) d_K_revision_1 ⟨by decide +kernel, by decide +kernel⟩) hS (fun q _ h => hFc q h) hFc (fun q _ h => hFc q h) (fun E ce q9 u t H1 locs ht hvm hw hB hz1 hk1 hS hce hcv hcl => ?_) (fun u t H1 locs ht hvm hw hB hz1 hk1 hS => False.elim hw)
  obtain ⟨rfl, hP1, hK1, hD1⟩ := hB
  rw [ht] at hP1
  have hK1 := va_K.moved hvm.symm hK1
  obtain ⟨hP, hD⟩ := va_join (wr := []) (w1 := [(h0, .inr (0, [v_documents, v_buffer, v_fetched, v_compared, v_maker, v_writer, .ref hp, .int i_madeDocuments, .int i_fetchedSteps])), (hp, .inr (4, [.int 1, .int p_i_going, .int p_i_writesLeft]))]) hP hD [0, 1] [] rfl rfl (by decide) (by decide) hk1 hFc hP1 hD1
  generalize H1 = H at hP hS hce ⊢
  replace hP : va_P (dC, dI) vwCl [(h0, .inr (0, [v_documents, v_buffer, v_fetched, v_compared, v_maker, v_writer, .ref hp, .int i_madeDocuments, .int i_fetchedSteps])), (hp, .inr (4, [.int 1, .int p_i_going, .int p_i_writesLeft]))] H := hP
  replace hD : va_D A [(h0, .inr (0, [v_documents, v_buffer, v_fetched, v_compared, v_maker, v_writer, .ref hp, .int i_madeDocuments, .int i_fetchedSteps])), (hp, .inr (4, [.int 1, .int p_i_going, .int p_i_writesLeft]))] := hD
  have hP9 := hP.sub (ws' := [(h0, .inr (0, [v_documents, v_buffer, v_fetched, v_compared, v_maker, v_writer, .ref hp, .int i_madeDocuments, .int i_fetchedSteps])), (hp, .inr (4, [.int 1, .int p_i_going, .int p_i_writesLeft]))]) [0, 1] rfl
  have hD9 := hD.sub (ws' := [(h0, .inr (0, [v_documents, v_buffer, v_fetched, v_compared, v_maker, v_writer, .ref hp, .int i_madeDocuments, .int i_fetchedSteps])), (hp, .inr (4, [.int 1, .int p_i_going, .int p_i_writesLeft]))]) [0, 1] (by decide) rfl
  have hK9 := hK.sub (tys' := []) [] rfl
  exact vx_out (fun x hx => (htab x hx).elim) hlocks hce hcv hcl (fun t ht hvm => ⟨(), trivial, ⟨rfl, by rw [ht]; exact hP9, va_K.moved hvm hK9, hD9⟩, hS.F ht⟩) hS.2.2 (by decide +kernel) (by decide +kernel)
set_option maxHeartbeats 4000000 in
set_option maxRecDepth 100000 in
theorem x_pieceByte_D (l : Launch) (hl9 : l.stackTraces = false) (dC : Nat → ClassId) (dI : Nat → Nat → Nat) (sz : Nat) (h0 : Nat) (v_documents : Value) (v_buffer : Value) (v_fetched : Value) (v_compared : Value) (v_maker : Value) (v_writer : Value) (i_madeDocuments : Int32) (i_fetchedSteps : Int32) (hp : Nat) (p_i_going : Int32) (p_i_writesLeft : Int32) (a1 : Int32) (a2 : Int32) (a3 : Int32)  : vx_Met l y_K_pieceByte k_K_pieceByte ({ frames := 7, cells := 1, slots := 6, locals := 105 } : Room) (va_Pc [.ref h0, .int a1, .int a2, .int a3] (fun U => pc_E (dC, dI) [(h0, .inr (0, [v_documents, v_buffer, v_fetched, v_compared, v_maker, v_writer, .ref hp, .int i_madeDocuments, .int i_fetchedSteps])), (hp, .inr (4, [.int 1, .int p_i_going, .int p_i_writesLeft]))] [] sz U ∧ tw_ok U)) (va_Qi (fun (_ : Int32) (_ : Unit) => False) (fun _ _ => True) (va_A [(h0, .inr (0, [v_documents, v_buffer, v_fetched, v_compared, v_maker, v_writer, .ref hp, .int i_madeDocuments, .int i_fetchedSteps])), (hp, .inr (4, [.int 1, .int p_i_going, .int p_i_writesLeft]))] sz)) (vx_X (fun _ : Unit => True) (fun E _ t => E = "java/lang/IllegalStateException" ∧ at_E (dC, dI) (va_A [(h0, .inr (0, [v_documents, v_buffer, v_fetched, v_compared, v_maker, v_writer, .ref hp, .int i_madeDocuments, .int i_fetchedSteps])), (hp, .inr (4, [.int 1, .int p_i_going, .int p_i_writesLeft]))] sz) [(h0, .inr (0, [v_documents, v_buffer, v_fetched, v_compared, v_maker, v_writer, .ref hp, .int i_madeDocuments, .int i_fetchedSteps])), (hp, .inr (4, [.int 1, .int p_i_going, .int p_i_writesLeft]))] [] t) (va_A [(h0, .inr (0, [v_documents, v_buffer, v_fetched, v_compared, v_maker, v_writer, .ref hp, .int i_madeDocuments, .int i_fetchedSteps])), (hp, .inr (4, [.int 1, .int p_i_going, .int p_i_writesLeft]))] sz)) 1 6 (va_A [(h0, .inr (0, [v_documents, v_buffer, v_fetched, v_compared, v_maker, v_writer, .ref hp, .int i_madeDocuments, .int i_fetchedSteps])), (hp, .inr (4, [.int 1, .int p_i_going, .int p_i_writesLeft]))] sz) := by
  refine vx_ofW (cc := prog_1_method_13_code) (maxL := 5) (ret := (some .int)) (by decide) rfl ?_
  intro p e s m args below meth c s₁ B hml htab hv
  obtain ⟨rfl, ⟨hsz, hP, hK, hD0, hN⟩, hTw⟩ := hv
  have hx := B.exec
  have hb := B.bytes
  have hr := B.returns
  have hts := atoms_spec (ws := k_K_pieceByte) B.pre
  have hw0 : ∀ w ∈ w0, w.before _ s = true := fun w h => hts w (List.mem_cons_of_mem _ h)
  have hown : s.vm.findClass R_K = some m.cls := findClass_of_methodNamed B.named
  have hlocks := B.notSynchronized
  subst hsz
  have hD := hD0.self (sz := s.heap.size)
  have hTwA := tw_A hTw hP
  generalize hAe : va_A [(h0, .inr (0, [v_documents, v_buffer, v_fetched, v_compared, v_maker, v_writer, .ref hp, .int i_madeDocuments, .int i_fetchedSteps])), (hp, .inr (4, [.int 1, .int p_i_going, .int p_i_writesLeft]))] s.heap.size = A at hD hTwA ⊢
  have hA : ∀ q : Nat, s.heap.size ≤ q → A q := fun q h => by rw [← hAe]; exact Or.inr h
  have hS : va_S A s.heap s.heap [] := va_S.rf
  have hP : va_P (dC, dI) vwCl [(h0, .inr (0, [v_documents, v_buffer, v_fetched, v_compared, v_maker, v_writer, .ref hp, .int i_madeDocuments, .int i_fetchedSteps])), (hp, .inr (4, [.int 1, .int p_i_going, .int p_i_writesLeft]))] s.heap := hP
  have hl := lv_entry ([.ref h0, .int a1, .int a2, .int a3]) (n := 5) (Nat.le_of_ble_eq_true rfl)
  rw [lg_entry_eq]
  generalize (lg_sl ([.ref h0, .int a1, .int a2, .int a3]) ++ List.replicate (5 - (lg_sl ([.ref h0, .int a1, .int a2, .int a3])).length) Slot.unset).toArray = ls at hl ⊢
  have hl : lv_has ls 5 [(0, .ref h0), (1, .int a1), (2, .int a2), (3, .int a3)] := hl
  refine lv_aload_n hx hb d_K_pieceByte_0 rfl (lv_at hl 0 rfl) ?_
  have hPc := hP.sub (ws' := [(h0, .inr (0, [v_documents, v_buffer, v_fetched, v_compared, v_maker, v_writer, .ref hp, .int i_madeDocuments, .int i_fetchedSteps])), (hp, .inr (4, [.int 1, .int p_i_going, .int p_i_writesLeft]))]) [0, 1] rfl
  have hKc := hK.sub (tys' := []) [] rfl
  have hDc := hD.sub (ws' := [(h0, .inr (0, [v_documents, v_buffer, v_fetched, v_compared, v_maker, v_writer, .ref hp, .int i_madeDocuments, .int i_fetchedSteps])), (hp, .inr (4, [.int 1, .int p_i_going, .int p_i_writesLeft]))]) [0, 1] (by decide) rfl
  have hFc := va_free (wc := [(h0, .inr (0, [v_documents, v_buffer, v_fetched, v_compared, v_maker, v_writer, .ref hp, .int i_madeDocuments, .int i_fetchedSteps])), (hp, .inr (4, [.int 1, .int p_i_going, .int p_i_writesLeft]))]) hD hS hA [0, 1] rfl
  refine vx_callv (vx_runV (As := []) (rest := []) ⟨hx, hb, hml, hown, hw0⟩ (x_needPower l hl9 dC dI s.heap.size h0 v_documents v_buffer v_fetched v_compared v_maker v_writer i_madeDocuments i_fetchedSteps hp p_i_going p_i_writesLeft ) (cwV 0 hw0 (gd_Vm wm_322 wm_323 wm_324 wm_226 wm_325) rfl rfl rfl (by decide +kernel) ⟨by decide +kernel, by decide +kernel⟩) (prV_X hPc hKc hDc hN (hTwA.at hS) (va_recv hKc hPc (ci := 0) (q0 := 0) rfl rfl)) rfl rfl hl.1 rfl (lv_room (Nat.le_of_ble_eq_true rfl)) d_K_pieceByte_1 ⟨by decide +kernel, by decide +kernel⟩) hS (fun q _ h => hFc q h) hFc (fun q _ h => hFc q h) (fun E ce q9 u t H1 locs ht hvm hw hB hz1 hk1 hS hce hcv hcl => ?_) (fun u t H1 locs ht hvm hw hB hz1 hk1 hS => False.elim hw)
  obtain ⟨rfl, hP1, hK1, hD1⟩ := hB
  rw [ht] at hP1
  have hK1 := va_K.moved hvm.symm hK1
  obtain ⟨hP, hD⟩ := va_join (wr := []) (w1 := [(h0, .inr (0, [v_documents, v_buffer, v_fetched, v_compared, v_maker, v_writer, .ref hp, .int i_madeDocuments, .int i_fetchedSteps])), (hp, .inr (4, [.int 1, .int p_i_going, .int p_i_writesLeft]))]) hP hD [0, 1] [] rfl rfl (by decide) (by decide) hk1 hFc hP1 hD1
  generalize H1 = H at hP hS hce ⊢
  replace hP : va_P (dC, dI) vwCl [(h0, .inr (0, [v_documents, v_buffer, v_fetched, v_compared, v_maker, v_writer, .ref hp, .int i_madeDocuments, .int i_fetchedSteps])), (hp, .inr (4, [.int 1, .int p_i_going, .int p_i_writesLeft]))] H := hP
  replace hD : va_D A [(h0, .inr (0, [v_documents, v_buffer, v_fetched, v_compared, v_maker, v_writer, .ref hp, .int i_madeDocuments, .int i_fetchedSteps])), (hp, .inr (4, [.int 1, .int p_i_going, .int p_i_writesLeft]))] := hD
  have hP9 := hP.sub (ws' := [(h0, .inr (0, [v_documents, v_buffer, v_fetched, v_compared, v_maker, v_writer, .ref hp, .int i_madeDocuments, .int i_fetchedSteps])), (hp, .inr (4, [.int 1, .int p_i_going, .int p_i_writesLeft]))]) [0, 1] rfl
  have hD9 := hD.sub (ws' := [(h0, .inr (0, [v_documents, v_buffer, v_fetched, v_compared, v_maker, v_writer, .ref hp, .int i_madeDocuments, .int i_fetchedSteps])), (hp, .inr (4, [.int 1, .int p_i_going, .int p_i_writesLeft]))]) [0, 1] (by decide) rfl
  have hK9 := hK.sub (tys' := []) [] rfl
  exact vx_out (fun x hx => (htab x hx).elim) hlocks hce hcv hcl (fun t ht hvm => ⟨(), trivial, ⟨rfl, by rw [ht]; exact hP9, va_K.moved hvm hK9, hD9⟩, hS.F ht⟩) hS.2.2 (by decide +kernel) (by decide +kernel)
set_option maxHeartbeats 4000000 in
set_option maxRecDepth 100000 in
theorem x_damage_D (l : Launch) (hl9 : l.stackTraces = false) (dC : Nat → ClassId) (dI : Nat → Nat → Nat) (sz : Nat) (h0 : Nat) (v_documents : Value) (v_buffer : Value) (v_fetched : Value) (v_compared : Value) (v_maker : Value) (v_writer : Value) (i_madeDocuments : Int32) (i_fetchedSteps : Int32) (hp : Nat) (p_i_going : Int32) (p_i_writesLeft : Int32) (a1 : Int32) (a2 : Int32) (a3 : Int32) (a4 : Int32)  : vx_Met l y_K_damage k_K_damage ({ frames := 7, cells := 1, slots := 6, locals := 105 } : Room) (va_Pc [.ref h0, .int a1, .int a2, .int a3, .int a4] (fun U => pc_E (dC, dI) [(h0, .inr (0, [v_documents, v_buffer, v_fetched, v_compared, v_maker, v_writer, .ref hp, .int i_madeDocuments, .int i_fetchedSteps])), (hp, .inr (4, [.int 1, .int p_i_going, .int p_i_writesLeft]))] [] sz U ∧ tw_ok U)) (va_Qi (fun (_ : Int32) (_ : Unit) => False) (fun _ _ => True) (va_A [(h0, .inr (0, [v_documents, v_buffer, v_fetched, v_compared, v_maker, v_writer, .ref hp, .int i_madeDocuments, .int i_fetchedSteps])), (hp, .inr (4, [.int 1, .int p_i_going, .int p_i_writesLeft]))] sz)) (vx_X (fun _ : Unit => True) (fun E _ t => E = "java/lang/IllegalStateException" ∧ at_E (dC, dI) (va_A [(h0, .inr (0, [v_documents, v_buffer, v_fetched, v_compared, v_maker, v_writer, .ref hp, .int i_madeDocuments, .int i_fetchedSteps])), (hp, .inr (4, [.int 1, .int p_i_going, .int p_i_writesLeft]))] sz) [(h0, .inr (0, [v_documents, v_buffer, v_fetched, v_compared, v_maker, v_writer, .ref hp, .int i_madeDocuments, .int i_fetchedSteps])), (hp, .inr (4, [.int 1, .int p_i_going, .int p_i_writesLeft]))] [] t) (va_A [(h0, .inr (0, [v_documents, v_buffer, v_fetched, v_compared, v_maker, v_writer, .ref hp, .int i_madeDocuments, .int i_fetchedSteps])), (hp, .inr (4, [.int 1, .int p_i_going, .int p_i_writesLeft]))] sz)) 1 6 (va_A [(h0, .inr (0, [v_documents, v_buffer, v_fetched, v_compared, v_maker, v_writer, .ref hp, .int i_madeDocuments, .int i_fetchedSteps])), (hp, .inr (4, [.int 1, .int p_i_going, .int p_i_writesLeft]))] sz) := by
  refine vx_ofW (cc := prog_1_method_14_code) (maxL := 6) (ret := (some .boolean)) (by decide) rfl ?_
  intro p e s m args below meth c s₁ B hml htab hv
  obtain ⟨rfl, ⟨hsz, hP, hK, hD0, hN⟩, hTw⟩ := hv
  have hx := B.exec
  have hb := B.bytes
  have hr := B.returns
  have hts := atoms_spec (ws := k_K_damage) B.pre
  have hw0 : ∀ w ∈ w0, w.before _ s = true := fun w h => hts w (List.mem_cons_of_mem _ h)
  have hown : s.vm.findClass R_K = some m.cls := findClass_of_methodNamed B.named
  have hlocks := B.notSynchronized
  subst hsz
  have hD := hD0.self (sz := s.heap.size)
  have hTwA := tw_A hTw hP
  generalize hAe : va_A [(h0, .inr (0, [v_documents, v_buffer, v_fetched, v_compared, v_maker, v_writer, .ref hp, .int i_madeDocuments, .int i_fetchedSteps])), (hp, .inr (4, [.int 1, .int p_i_going, .int p_i_writesLeft]))] s.heap.size = A at hD hTwA ⊢
  have hA : ∀ q : Nat, s.heap.size ≤ q → A q := fun q h => by rw [← hAe]; exact Or.inr h
  have hS : va_S A s.heap s.heap [] := va_S.rf
  have hP : va_P (dC, dI) vwCl [(h0, .inr (0, [v_documents, v_buffer, v_fetched, v_compared, v_maker, v_writer, .ref hp, .int i_madeDocuments, .int i_fetchedSteps])), (hp, .inr (4, [.int 1, .int p_i_going, .int p_i_writesLeft]))] s.heap := hP
  have hl := lv_entry ([.ref h0, .int a1, .int a2, .int a3, .int a4]) (n := 6) (Nat.le_of_ble_eq_true rfl)
  rw [lg_entry_eq]
  generalize (lg_sl ([.ref h0, .int a1, .int a2, .int a3, .int a4]) ++ List.replicate (6 - (lg_sl ([.ref h0, .int a1, .int a2, .int a3, .int a4])).length) Slot.unset).toArray = ls at hl ⊢
  have hl : lv_has ls 6 [(0, .ref h0), (1, .int a1), (2, .int a2), (3, .int a3), (4, .int a4)] := hl
  refine lv_aload_n hx hb d_K_damage_0 rfl (lv_at hl 0 rfl) ?_
  have hPc := hP.sub (ws' := [(h0, .inr (0, [v_documents, v_buffer, v_fetched, v_compared, v_maker, v_writer, .ref hp, .int i_madeDocuments, .int i_fetchedSteps])), (hp, .inr (4, [.int 1, .int p_i_going, .int p_i_writesLeft]))]) [0, 1] rfl
  have hKc := hK.sub (tys' := []) [] rfl
  have hDc := hD.sub (ws' := [(h0, .inr (0, [v_documents, v_buffer, v_fetched, v_compared, v_maker, v_writer, .ref hp, .int i_madeDocuments, .int i_fetchedSteps])), (hp, .inr (4, [.int 1, .int p_i_going, .int p_i_writesLeft]))]) [0, 1] (by decide) rfl
  have hFc := va_free (wc := [(h0, .inr (0, [v_documents, v_buffer, v_fetched, v_compared, v_maker, v_writer, .ref hp, .int i_madeDocuments, .int i_fetchedSteps])), (hp, .inr (4, [.int 1, .int p_i_going, .int p_i_writesLeft]))]) hD hS hA [0, 1] rfl
  refine vx_callv (vx_runV (As := []) (rest := []) ⟨hx, hb, hml, hown, hw0⟩ (x_needPower l hl9 dC dI s.heap.size h0 v_documents v_buffer v_fetched v_compared v_maker v_writer i_madeDocuments i_fetchedSteps hp p_i_going p_i_writesLeft ) (cwV 0 hw0 (gd_Vm wm_322 wm_323 wm_324 wm_226 wm_325) rfl rfl rfl (by decide +kernel) ⟨by decide +kernel, by decide +kernel⟩) (prV_X hPc hKc hDc hN (hTwA.at hS) (va_recv hKc hPc (ci := 0) (q0 := 0) rfl rfl)) rfl rfl hl.1 rfl (lv_room (Nat.le_of_ble_eq_true rfl)) d_K_damage_1 ⟨by decide +kernel, by decide +kernel⟩) hS (fun q _ h => hFc q h) hFc (fun q _ h => hFc q h) (fun E ce q9 u t H1 locs ht hvm hw hB hz1 hk1 hS hce hcv hcl => ?_) (fun u t H1 locs ht hvm hw hB hz1 hk1 hS => False.elim hw)
  obtain ⟨rfl, hP1, hK1, hD1⟩ := hB
  rw [ht] at hP1
  have hK1 := va_K.moved hvm.symm hK1
  obtain ⟨hP, hD⟩ := va_join (wr := []) (w1 := [(h0, .inr (0, [v_documents, v_buffer, v_fetched, v_compared, v_maker, v_writer, .ref hp, .int i_madeDocuments, .int i_fetchedSteps])), (hp, .inr (4, [.int 1, .int p_i_going, .int p_i_writesLeft]))]) hP hD [0, 1] [] rfl rfl (by decide) (by decide) hk1 hFc hP1 hD1
  generalize H1 = H at hP hS hce ⊢
  replace hP : va_P (dC, dI) vwCl [(h0, .inr (0, [v_documents, v_buffer, v_fetched, v_compared, v_maker, v_writer, .ref hp, .int i_madeDocuments, .int i_fetchedSteps])), (hp, .inr (4, [.int 1, .int p_i_going, .int p_i_writesLeft]))] H := hP
  replace hD : va_D A [(h0, .inr (0, [v_documents, v_buffer, v_fetched, v_compared, v_maker, v_writer, .ref hp, .int i_madeDocuments, .int i_fetchedSteps])), (hp, .inr (4, [.int 1, .int p_i_going, .int p_i_writesLeft]))] := hD
  have hP9 := hP.sub (ws' := [(h0, .inr (0, [v_documents, v_buffer, v_fetched, v_compared, v_maker, v_writer, .ref hp, .int i_madeDocuments, .int i_fetchedSteps])), (hp, .inr (4, [.int 1, .int p_i_going, .int p_i_writesLeft]))]) [0, 1] rfl
  have hD9 := hD.sub (ws' := [(h0, .inr (0, [v_documents, v_buffer, v_fetched, v_compared, v_maker, v_writer, .ref hp, .int i_madeDocuments, .int i_fetchedSteps])), (hp, .inr (4, [.int 1, .int p_i_going, .int p_i_writesLeft]))]) [0, 1] (by decide) rfl
  have hK9 := hK.sub (tys' := []) [] rfl
  exact vx_out (fun x hx => (htab x hx).elim) hlocks hce hcv hcl (fun t ht hvm => ⟨(), trivial, ⟨rfl, by rw [ht]; exact hP9, va_K.moved hvm hK9, hD9⟩, hS.F ht⟩) hS.2.2 (by decide +kernel) (by decide +kernel)
set_option maxHeartbeats 4000000 in
set_option maxRecDepth 100000 in
theorem x_verify_D (l : Launch) (hl9 : l.stackTraces = false) (dC : Nat → ClassId) (dI : Nat → Nat → Nat) (sz : Nat) (h0 : Nat) (v_documents : Value) (v_buffer : Value) (v_fetched : Value) (v_compared : Value) (v_maker : Value) (v_writer : Value) (i_madeDocuments : Int32) (i_fetchedSteps : Int32) (hp : Nat) (p_i_going : Int32) (p_i_writesLeft : Int32) (a1 : Int32)  : vx_Met l y_K_verify k_K_verify ({ frames := 7, cells := 1, slots := 6, locals := 105 } : Room) (va_Pc [.ref h0, .int a1] (fun U => pc_E (dC, dI) [(h0, .inr (0, [v_documents, v_buffer, v_fetched, v_compared, v_maker, v_writer, .ref hp, .int i_madeDocuments, .int i_fetchedSteps])), (hp, .inr (4, [.int 1, .int p_i_going, .int p_i_writesLeft]))] [] sz U ∧ tw_ok U)) (va_Qi (fun (_ : Int32) (_ : Unit) => False) (fun _ _ => True) (va_A [(h0, .inr (0, [v_documents, v_buffer, v_fetched, v_compared, v_maker, v_writer, .ref hp, .int i_madeDocuments, .int i_fetchedSteps])), (hp, .inr (4, [.int 1, .int p_i_going, .int p_i_writesLeft]))] sz)) (vx_X (fun _ : Unit => True) (fun E _ t => E = "java/lang/IllegalStateException" ∧ at_E (dC, dI) (va_A [(h0, .inr (0, [v_documents, v_buffer, v_fetched, v_compared, v_maker, v_writer, .ref hp, .int i_madeDocuments, .int i_fetchedSteps])), (hp, .inr (4, [.int 1, .int p_i_going, .int p_i_writesLeft]))] sz) [(h0, .inr (0, [v_documents, v_buffer, v_fetched, v_compared, v_maker, v_writer, .ref hp, .int i_madeDocuments, .int i_fetchedSteps])), (hp, .inr (4, [.int 1, .int p_i_going, .int p_i_writesLeft]))] [] t) (va_A [(h0, .inr (0, [v_documents, v_buffer, v_fetched, v_compared, v_maker, v_writer, .ref hp, .int i_madeDocuments, .int i_fetchedSteps])), (hp, .inr (4, [.int 1, .int p_i_going, .int p_i_writesLeft]))] sz)) 1 6 (va_A [(h0, .inr (0, [v_documents, v_buffer, v_fetched, v_compared, v_maker, v_writer, .ref hp, .int i_madeDocuments, .int i_fetchedSteps])), (hp, .inr (4, [.int 1, .int p_i_going, .int p_i_writesLeft]))] sz) := by
  refine vx_ofW (cc := prog_1_method_15_code) (maxL := 4) (ret := (some .int)) (by decide) rfl ?_
  intro p e s m args below meth c s₁ B hml htab hv
  obtain ⟨rfl, ⟨hsz, hP, hK, hD0, hN⟩, hTw⟩ := hv
  have hx := B.exec
  have hb := B.bytes
  have hr := B.returns
  have hts := atoms_spec (ws := k_K_verify) B.pre
  have hw0 : ∀ w ∈ w0, w.before _ s = true := fun w h => hts w (List.mem_cons_of_mem _ h)
  have hown : s.vm.findClass R_K = some m.cls := findClass_of_methodNamed B.named
  have hlocks := B.notSynchronized
  subst hsz
  have hD := hD0.self (sz := s.heap.size)
  have hTwA := tw_A hTw hP
  generalize hAe : va_A [(h0, .inr (0, [v_documents, v_buffer, v_fetched, v_compared, v_maker, v_writer, .ref hp, .int i_madeDocuments, .int i_fetchedSteps])), (hp, .inr (4, [.int 1, .int p_i_going, .int p_i_writesLeft]))] s.heap.size = A at hD hTwA ⊢
  have hA : ∀ q : Nat, s.heap.size ≤ q → A q := fun q h => by rw [← hAe]; exact Or.inr h
  have hS : va_S A s.heap s.heap [] := va_S.rf
  have hP : va_P (dC, dI) vwCl [(h0, .inr (0, [v_documents, v_buffer, v_fetched, v_compared, v_maker, v_writer, .ref hp, .int i_madeDocuments, .int i_fetchedSteps])), (hp, .inr (4, [.int 1, .int p_i_going, .int p_i_writesLeft]))] s.heap := hP
  have hl := lv_entry ([.ref h0, .int a1]) (n := 4) (Nat.le_of_ble_eq_true rfl)
  rw [lg_entry_eq]
  generalize (lg_sl ([.ref h0, .int a1]) ++ List.replicate (4 - (lg_sl ([.ref h0, .int a1])).length) Slot.unset).toArray = ls at hl ⊢
  have hl : lv_has ls 4 [(0, .ref h0), (1, .int a1)] := hl
  refine lv_aload_n hx hb d_K_verify_0 rfl (lv_at hl 0 rfl) ?_
  have hPc := hP.sub (ws' := [(h0, .inr (0, [v_documents, v_buffer, v_fetched, v_compared, v_maker, v_writer, .ref hp, .int i_madeDocuments, .int i_fetchedSteps])), (hp, .inr (4, [.int 1, .int p_i_going, .int p_i_writesLeft]))]) [0, 1] rfl
  have hKc := hK.sub (tys' := []) [] rfl
  have hDc := hD.sub (ws' := [(h0, .inr (0, [v_documents, v_buffer, v_fetched, v_compared, v_maker, v_writer, .ref hp, .int i_madeDocuments, .int i_fetchedSteps])), (hp, .inr (4, [.int 1, .int p_i_going, .int p_i_writesLeft]))]) [0, 1] (by decide) rfl
  have hFc := va_free (wc := [(h0, .inr (0, [v_documents, v_buffer, v_fetched, v_compared, v_maker, v_writer, .ref hp, .int i_madeDocuments, .int i_fetchedSteps])), (hp, .inr (4, [.int 1, .int p_i_going, .int p_i_writesLeft]))]) hD hS hA [0, 1] rfl
  refine vx_callv (vx_runV (As := []) (rest := []) ⟨hx, hb, hml, hown, hw0⟩ (x_needPower l hl9 dC dI s.heap.size h0 v_documents v_buffer v_fetched v_compared v_maker v_writer i_madeDocuments i_fetchedSteps hp p_i_going p_i_writesLeft ) (cwV 0 hw0 (gd_Vm wm_322 wm_323 wm_324 wm_226 wm_325) rfl rfl rfl (by decide +kernel) ⟨by decide +kernel, by decide +kernel⟩) (prV_X hPc hKc hDc hN (hTwA.at hS) (va_recv hKc hPc (ci := 0) (q0 := 0) rfl rfl)) rfl rfl hl.1 rfl (lv_room (Nat.le_of_ble_eq_true rfl)) d_K_verify_1 ⟨by decide +kernel, by decide +kernel⟩) hS (fun q _ h => hFc q h) hFc (fun q _ h => hFc q h) (fun E ce q9 u t H1 locs ht hvm hw hB hz1 hk1 hS hce hcv hcl => ?_) (fun u t H1 locs ht hvm hw hB hz1 hk1 hS => False.elim hw)
  obtain ⟨rfl, hP1, hK1, hD1⟩ := hB
  rw [ht] at hP1
  have hK1 := va_K.moved hvm.symm hK1
  obtain ⟨hP, hD⟩ := va_join (wr := []) (w1 := [(h0, .inr (0, [v_documents, v_buffer, v_fetched, v_compared, v_maker, v_writer, .ref hp, .int i_madeDocuments, .int i_fetchedSteps])), (hp, .inr (4, [.int 1, .int p_i_going, .int p_i_writesLeft]))]) hP hD [0, 1] [] rfl rfl (by decide) (by decide) hk1 hFc hP1 hD1
  generalize H1 = H at hP hS hce ⊢
  replace hP : va_P (dC, dI) vwCl [(h0, .inr (0, [v_documents, v_buffer, v_fetched, v_compared, v_maker, v_writer, .ref hp, .int i_madeDocuments, .int i_fetchedSteps])), (hp, .inr (4, [.int 1, .int p_i_going, .int p_i_writesLeft]))] H := hP
  replace hD : va_D A [(h0, .inr (0, [v_documents, v_buffer, v_fetched, v_compared, v_maker, v_writer, .ref hp, .int i_madeDocuments, .int i_fetchedSteps])), (hp, .inr (4, [.int 1, .int p_i_going, .int p_i_writesLeft]))] := hD
  have hP9 := hP.sub (ws' := [(h0, .inr (0, [v_documents, v_buffer, v_fetched, v_compared, v_maker, v_writer, .ref hp, .int i_madeDocuments, .int i_fetchedSteps])), (hp, .inr (4, [.int 1, .int p_i_going, .int p_i_writesLeft]))]) [0, 1] rfl
  have hD9 := hD.sub (ws' := [(h0, .inr (0, [v_documents, v_buffer, v_fetched, v_compared, v_maker, v_writer, .ref hp, .int i_madeDocuments, .int i_fetchedSteps])), (hp, .inr (4, [.int 1, .int p_i_going, .int p_i_writesLeft]))]) [0, 1] (by decide) rfl
  have hK9 := hK.sub (tys' := []) [] rfl
  exact vx_out (fun x hx => (htab x hx).elim) hlocks hce hcv hcl (fun t ht hvm => ⟨(), trivial, ⟨rfl, by rw [ht]; exact hP9, va_K.moved hvm hK9, hD9⟩, hS.F ht⟩) hS.2.2 (by decide +kernel) (by decide +kernel)
set_option maxHeartbeats 4000000 in
set_option maxRecDepth 100000 in
theorem x_common_D (l : Launch) (hl9 : l.stackTraces = false) (dC : Nat → ClassId) (dI : Nat → Nat → Nat) (sz : Nat) (h0 : Nat) (v_documents : Value) (v_buffer : Value) (v_fetched : Value) (v_compared : Value) (v_maker : Value) (v_writer : Value) (i_madeDocuments : Int32) (i_fetchedSteps : Int32) (hp : Nat) (p_i_going : Int32) (p_i_writesLeft : Int32) (a1 : Int32) (a2 : Int32) (a3 : Int32) (a4 : Int32)  : vx_Met l y_K_common k_K_common ({ frames := 7, cells := 1, slots := 6, locals := 105 } : Room) (va_Pc [.ref h0, .int a1, .int a2, .int a3, .int a4] (fun U => pc_E (dC, dI) [(h0, .inr (0, [v_documents, v_buffer, v_fetched, v_compared, v_maker, v_writer, .ref hp, .int i_madeDocuments, .int i_fetchedSteps])), (hp, .inr (4, [.int 1, .int p_i_going, .int p_i_writesLeft]))] [] sz U ∧ tw_ok U)) (va_Qi (fun (_ : Int32) (_ : Unit) => False) (fun _ _ => True) (va_A [(h0, .inr (0, [v_documents, v_buffer, v_fetched, v_compared, v_maker, v_writer, .ref hp, .int i_madeDocuments, .int i_fetchedSteps])), (hp, .inr (4, [.int 1, .int p_i_going, .int p_i_writesLeft]))] sz)) (vx_X (fun _ : Unit => True) (fun E _ t => E = "java/lang/IllegalStateException" ∧ at_E (dC, dI) (va_A [(h0, .inr (0, [v_documents, v_buffer, v_fetched, v_compared, v_maker, v_writer, .ref hp, .int i_madeDocuments, .int i_fetchedSteps])), (hp, .inr (4, [.int 1, .int p_i_going, .int p_i_writesLeft]))] sz) [(h0, .inr (0, [v_documents, v_buffer, v_fetched, v_compared, v_maker, v_writer, .ref hp, .int i_madeDocuments, .int i_fetchedSteps])), (hp, .inr (4, [.int 1, .int p_i_going, .int p_i_writesLeft]))] [] t) (va_A [(h0, .inr (0, [v_documents, v_buffer, v_fetched, v_compared, v_maker, v_writer, .ref hp, .int i_madeDocuments, .int i_fetchedSteps])), (hp, .inr (4, [.int 1, .int p_i_going, .int p_i_writesLeft]))] sz)) 1 6 (va_A [(h0, .inr (0, [v_documents, v_buffer, v_fetched, v_compared, v_maker, v_writer, .ref hp, .int i_madeDocuments, .int i_fetchedSteps])), (hp, .inr (4, [.int 1, .int p_i_going, .int p_i_writesLeft]))] sz) := by
  refine vx_ofW (cc := prog_1_method_16_code) (maxL := 9) (ret := (some .int)) (by decide) rfl ?_
  intro p e s m args below meth c s₁ B hml htab hv
  obtain ⟨rfl, ⟨hsz, hP, hK, hD0, hN⟩, hTw⟩ := hv
  have hx := B.exec
  have hb := B.bytes
  have hr := B.returns
  have hts := atoms_spec (ws := k_K_common) B.pre
  have hw0 : ∀ w ∈ w0, w.before _ s = true := fun w h => hts w (List.mem_cons_of_mem _ h)
  have hown : s.vm.findClass R_K = some m.cls := findClass_of_methodNamed B.named
  have hlocks := B.notSynchronized
  subst hsz
  have hD := hD0.self (sz := s.heap.size)
  have hTwA := tw_A hTw hP
  generalize hAe : va_A [(h0, .inr (0, [v_documents, v_buffer, v_fetched, v_compared, v_maker, v_writer, .ref hp, .int i_madeDocuments, .int i_fetchedSteps])), (hp, .inr (4, [.int 1, .int p_i_going, .int p_i_writesLeft]))] s.heap.size = A at hD hTwA ⊢
  have hA : ∀ q : Nat, s.heap.size ≤ q → A q := fun q h => by rw [← hAe]; exact Or.inr h
  have hS : va_S A s.heap s.heap [] := va_S.rf
  have hP : va_P (dC, dI) vwCl [(h0, .inr (0, [v_documents, v_buffer, v_fetched, v_compared, v_maker, v_writer, .ref hp, .int i_madeDocuments, .int i_fetchedSteps])), (hp, .inr (4, [.int 1, .int p_i_going, .int p_i_writesLeft]))] s.heap := hP
  have hl := lv_entry ([.ref h0, .int a1, .int a2, .int a3, .int a4]) (n := 9) (Nat.le_of_ble_eq_true rfl)
  rw [lg_entry_eq]
  generalize (lg_sl ([.ref h0, .int a1, .int a2, .int a3, .int a4]) ++ List.replicate (9 - (lg_sl ([.ref h0, .int a1, .int a2, .int a3, .int a4])).length) Slot.unset).toArray = ls at hl ⊢
  have hl : lv_has ls 9 [(0, .ref h0), (1, .int a1), (2, .int a2), (3, .int a3), (4, .int a4)] := hl
  refine lv_aload_n hx hb d_K_common_0 rfl (lv_at hl 0 rfl) ?_
  have hPc := hP.sub (ws' := [(h0, .inr (0, [v_documents, v_buffer, v_fetched, v_compared, v_maker, v_writer, .ref hp, .int i_madeDocuments, .int i_fetchedSteps])), (hp, .inr (4, [.int 1, .int p_i_going, .int p_i_writesLeft]))]) [0, 1] rfl
  have hKc := hK.sub (tys' := []) [] rfl
  have hDc := hD.sub (ws' := [(h0, .inr (0, [v_documents, v_buffer, v_fetched, v_compared, v_maker, v_writer, .ref hp, .int i_madeDocuments, .int i_fetchedSteps])), (hp, .inr (4, [.int 1, .int p_i_going, .int p_i_writesLeft]))]) [0, 1] (by decide) rfl
  have hFc := va_free (wc := [(h0, .inr (0, [v_documents, v_buffer, v_fetched, v_compared, v_maker, v_writer, .ref hp, .int i_madeDocuments, .int i_fetchedSteps])), (hp, .inr (4, [.int 1, .int p_i_going, .int p_i_writesLeft]))]) hD hS hA [0, 1] rfl
  refine vx_callv (vx_runV (As := []) (rest := []) ⟨hx, hb, hml, hown, hw0⟩ (x_needPower l hl9 dC dI s.heap.size h0 v_documents v_buffer v_fetched v_compared v_maker v_writer i_madeDocuments i_fetchedSteps hp p_i_going p_i_writesLeft ) (cwV 0 hw0 (gd_Vm wm_322 wm_323 wm_324 wm_226 wm_325) rfl rfl rfl (by decide +kernel) ⟨by decide +kernel, by decide +kernel⟩) (prV_X hPc hKc hDc hN (hTwA.at hS) (va_recv hKc hPc (ci := 0) (q0 := 0) rfl rfl)) rfl rfl hl.1 rfl (lv_room (Nat.le_of_ble_eq_true rfl)) d_K_common_1 ⟨by decide +kernel, by decide +kernel⟩) hS (fun q _ h => hFc q h) hFc (fun q _ h => hFc q h) (fun E ce q9 u t H1 locs ht hvm hw hB hz1 hk1 hS hce hcv hcl => ?_) (fun u t H1 locs ht hvm hw hB hz1 hk1 hS => False.elim hw)
  obtain ⟨rfl, hP1, hK1, hD1⟩ := hB
  rw [ht] at hP1
  have hK1 := va_K.moved hvm.symm hK1
  obtain ⟨hP, hD⟩ := va_join (wr := []) (w1 := [(h0, .inr (0, [v_documents, v_buffer, v_fetched, v_compared, v_maker, v_writer, .ref hp, .int i_madeDocuments, .int i_fetchedSteps])), (hp, .inr (4, [.int 1, .int p_i_going, .int p_i_writesLeft]))]) hP hD [0, 1] [] rfl rfl (by decide) (by decide) hk1 hFc hP1 hD1
  generalize H1 = H at hP hS hce ⊢
  replace hP : va_P (dC, dI) vwCl [(h0, .inr (0, [v_documents, v_buffer, v_fetched, v_compared, v_maker, v_writer, .ref hp, .int i_madeDocuments, .int i_fetchedSteps])), (hp, .inr (4, [.int 1, .int p_i_going, .int p_i_writesLeft]))] H := hP
  replace hD : va_D A [(h0, .inr (0, [v_documents, v_buffer, v_fetched, v_compared, v_maker, v_writer, .ref hp, .int i_madeDocuments, .int i_fetchedSteps])), (hp, .inr (4, [.int 1, .int p_i_going, .int p_i_writesLeft]))] := hD
  have hP9 := hP.sub (ws' := [(h0, .inr (0, [v_documents, v_buffer, v_fetched, v_compared, v_maker, v_writer, .ref hp, .int i_madeDocuments, .int i_fetchedSteps])), (hp, .inr (4, [.int 1, .int p_i_going, .int p_i_writesLeft]))]) [0, 1] rfl
  have hD9 := hD.sub (ws' := [(h0, .inr (0, [v_documents, v_buffer, v_fetched, v_compared, v_maker, v_writer, .ref hp, .int i_madeDocuments, .int i_fetchedSteps])), (hp, .inr (4, [.int 1, .int p_i_going, .int p_i_writesLeft]))]) [0, 1] (by decide) rfl
  have hK9 := hK.sub (tys' := []) [] rfl
  exact vx_out (fun x hx => (htab x hx).elim) hlocks hce hcv hcl (fun t ht hvm => ⟨(), trivial, ⟨rfl, by rw [ht]; exact hP9, va_K.moved hvm hK9, hD9⟩, hS.F ht⟩) hS.2.2 (by decide +kernel) (by decide +kernel)
set_option maxHeartbeats 4000000 in
set_option maxRecDepth 100000 in
theorem x_freeBlocks_D (l : Launch) (hl9 : l.stackTraces = false) (dC : Nat → ClassId) (dI : Nat → Nat → Nat) (sz : Nat) (h0 : Nat) (v_documents : Value) (v_buffer : Value) (v_fetched : Value) (v_compared : Value) (v_maker : Value) (v_writer : Value) (i_madeDocuments : Int32) (i_fetchedSteps : Int32) (hp : Nat) (p_i_going : Int32) (p_i_writesLeft : Int32)  : vx_Met l y_K_freeBlocks k_K_freeBlocks ({ frames := 7, cells := 1, slots := 6, locals := 105 } : Room) (va_Pc [.ref h0] (fun U => pc_E (dC, dI) [(h0, .inr (0, [v_documents, v_buffer, v_fetched, v_compared, v_maker, v_writer, .ref hp, .int i_madeDocuments, .int i_fetchedSteps])), (hp, .inr (4, [.int 1, .int p_i_going, .int p_i_writesLeft]))] [] sz U ∧ tw_ok U)) (va_Qi (fun (_ : Int32) (_ : Unit) => False) (fun _ _ => True) (va_A [(h0, .inr (0, [v_documents, v_buffer, v_fetched, v_compared, v_maker, v_writer, .ref hp, .int i_madeDocuments, .int i_fetchedSteps])), (hp, .inr (4, [.int 1, .int p_i_going, .int p_i_writesLeft]))] sz)) (vx_X (fun _ : Unit => True) (fun E _ t => E = "java/lang/IllegalStateException" ∧ at_E (dC, dI) (va_A [(h0, .inr (0, [v_documents, v_buffer, v_fetched, v_compared, v_maker, v_writer, .ref hp, .int i_madeDocuments, .int i_fetchedSteps])), (hp, .inr (4, [.int 1, .int p_i_going, .int p_i_writesLeft]))] sz) [(h0, .inr (0, [v_documents, v_buffer, v_fetched, v_compared, v_maker, v_writer, .ref hp, .int i_madeDocuments, .int i_fetchedSteps])), (hp, .inr (4, [.int 1, .int p_i_going, .int p_i_writesLeft]))] [] t) (va_A [(h0, .inr (0, [v_documents, v_buffer, v_fetched, v_compared, v_maker, v_writer, .ref hp, .int i_madeDocuments, .int i_fetchedSteps])), (hp, .inr (4, [.int 1, .int p_i_going, .int p_i_writesLeft]))] sz)) 1 6 (va_A [(h0, .inr (0, [v_documents, v_buffer, v_fetched, v_compared, v_maker, v_writer, .ref hp, .int i_madeDocuments, .int i_fetchedSteps])), (hp, .inr (4, [.int 1, .int p_i_going, .int p_i_writesLeft]))] sz) := by
  refine vx_ofW (cc := prog_1_method_17_code) (maxL := 1) (ret := (some .int)) (by decide) rfl ?_
  intro p e s m args below meth c s₁ B hml htab hv
  obtain ⟨rfl, ⟨hsz, hP, hK, hD0, hN⟩, hTw⟩ := hv
  have hx := B.exec
  have hb := B.bytes
  have hr := B.returns
  have hts := atoms_spec (ws := k_K_freeBlocks) B.pre
  have hw0 : ∀ w ∈ w0, w.before _ s = true := fun w h => hts w (List.mem_cons_of_mem _ h)
  have hown : s.vm.findClass R_K = some m.cls := findClass_of_methodNamed B.named
  have hlocks := B.notSynchronized
  subst hsz
  have hD := hD0.self (sz := s.heap.size)
  have hTwA := tw_A hTw hP
  generalize hAe : va_A [(h0, .inr (0, [v_documents, v_buffer, v_fetched, v_compared, v_maker, v_writer, .ref hp, .int i_madeDocuments, .int i_fetchedSteps])), (hp, .inr (4, [.int 1, .int p_i_going, .int p_i_writesLeft]))] s.heap.size = A at hD hTwA ⊢
  have hA : ∀ q : Nat, s.heap.size ≤ q → A q := fun q h => by rw [← hAe]; exact Or.inr h
  have hS : va_S A s.heap s.heap [] := va_S.rf
  have hP : va_P (dC, dI) vwCl [(h0, .inr (0, [v_documents, v_buffer, v_fetched, v_compared, v_maker, v_writer, .ref hp, .int i_madeDocuments, .int i_fetchedSteps])), (hp, .inr (4, [.int 1, .int p_i_going, .int p_i_writesLeft]))] s.heap := hP
  have hl := lv_entry ([.ref h0]) (n := 1) (Nat.le_of_ble_eq_true rfl)
  rw [lg_entry_eq]
  generalize (lg_sl ([.ref h0]) ++ List.replicate (1 - (lg_sl ([.ref h0])).length) Slot.unset).toArray = ls at hl ⊢
  have hl : lv_has ls 1 [(0, .ref h0)] := hl
  refine lv_aload_n hx hb d_K_freeBlocks_0 rfl (lv_at hl 0 rfl) ?_
  have hPc := hP.sub (ws' := [(h0, .inr (0, [v_documents, v_buffer, v_fetched, v_compared, v_maker, v_writer, .ref hp, .int i_madeDocuments, .int i_fetchedSteps])), (hp, .inr (4, [.int 1, .int p_i_going, .int p_i_writesLeft]))]) [0, 1] rfl
  have hKc := hK.sub (tys' := []) [] rfl
  have hDc := hD.sub (ws' := [(h0, .inr (0, [v_documents, v_buffer, v_fetched, v_compared, v_maker, v_writer, .ref hp, .int i_madeDocuments, .int i_fetchedSteps])), (hp, .inr (4, [.int 1, .int p_i_going, .int p_i_writesLeft]))]) [0, 1] (by decide) rfl
  have hFc := va_free (wc := [(h0, .inr (0, [v_documents, v_buffer, v_fetched, v_compared, v_maker, v_writer, .ref hp, .int i_madeDocuments, .int i_fetchedSteps])), (hp, .inr (4, [.int 1, .int p_i_going, .int p_i_writesLeft]))]) hD hS hA [0, 1] rfl
  refine vx_callv (vx_runV (As := []) (rest := []) ⟨hx, hb, hml, hown, hw0⟩ (x_needPower l hl9 dC dI s.heap.size h0 v_documents v_buffer v_fetched v_compared v_maker v_writer i_madeDocuments i_fetchedSteps hp p_i_going p_i_writesLeft ) (cwV 0 hw0 (gd_Vm wm_322 wm_323 wm_324 wm_226 wm_325) rfl rfl rfl (by decide +kernel) ⟨by decide +kernel, by decide +kernel⟩) (prV_X hPc hKc hDc hN (hTwA.at hS) (va_recv hKc hPc (ci := 0) (q0 := 0) rfl rfl)) rfl rfl hl.1 rfl (lv_room (Nat.le_of_ble_eq_true rfl)) d_K_freeBlocks_1 ⟨by decide +kernel, by decide +kernel⟩) hS (fun q _ h => hFc q h) hFc (fun q _ h => hFc q h) (fun E ce q9 u t H1 locs ht hvm hw hB hz1 hk1 hS hce hcv hcl => ?_) (fun u t H1 locs ht hvm hw hB hz1 hk1 hS => False.elim hw)
  obtain ⟨rfl, hP1, hK1, hD1⟩ := hB
  rw [ht] at hP1
  have hK1 := va_K.moved hvm.symm hK1
  obtain ⟨hP, hD⟩ := va_join (wr := []) (w1 := [(h0, .inr (0, [v_documents, v_buffer, v_fetched, v_compared, v_maker, v_writer, .ref hp, .int i_madeDocuments, .int i_fetchedSteps])), (hp, .inr (4, [.int 1, .int p_i_going, .int p_i_writesLeft]))]) hP hD [0, 1] [] rfl rfl (by decide) (by decide) hk1 hFc hP1 hD1
  generalize H1 = H at hP hS hce ⊢
  replace hP : va_P (dC, dI) vwCl [(h0, .inr (0, [v_documents, v_buffer, v_fetched, v_compared, v_maker, v_writer, .ref hp, .int i_madeDocuments, .int i_fetchedSteps])), (hp, .inr (4, [.int 1, .int p_i_going, .int p_i_writesLeft]))] H := hP
  replace hD : va_D A [(h0, .inr (0, [v_documents, v_buffer, v_fetched, v_compared, v_maker, v_writer, .ref hp, .int i_madeDocuments, .int i_fetchedSteps])), (hp, .inr (4, [.int 1, .int p_i_going, .int p_i_writesLeft]))] := hD
  have hP9 := hP.sub (ws' := [(h0, .inr (0, [v_documents, v_buffer, v_fetched, v_compared, v_maker, v_writer, .ref hp, .int i_madeDocuments, .int i_fetchedSteps])), (hp, .inr (4, [.int 1, .int p_i_going, .int p_i_writesLeft]))]) [0, 1] rfl
  have hD9 := hD.sub (ws' := [(h0, .inr (0, [v_documents, v_buffer, v_fetched, v_compared, v_maker, v_writer, .ref hp, .int i_madeDocuments, .int i_fetchedSteps])), (hp, .inr (4, [.int 1, .int p_i_going, .int p_i_writesLeft]))]) [0, 1] (by decide) rfl
  have hK9 := hK.sub (tys' := []) [] rfl
  exact vx_out (fun x hx => (htab x hx).elim) hlocks hce hcv hcl (fun t ht hvm => ⟨(), trivial, ⟨rfl, by rw [ht]; exact hP9, va_K.moved hvm hK9, hD9⟩, hS.F ht⟩) hS.2.2 (by decide +kernel) (by decide +kernel)
set_option maxHeartbeats 4000000 in
set_option maxRecDepth 100000 in
theorem x_cutAfter_D (l : Launch) (hl9 : l.stackTraces = false) (dC : Nat → ClassId) (dI : Nat → Nat → Nat) (sz : Nat) (h0 : Nat) (v_documents : Value) (v_buffer : Value) (v_fetched : Value) (v_compared : Value) (v_maker : Value) (v_writer : Value) (i_madeDocuments : Int32) (i_fetchedSteps : Int32) (hp : Nat) (p_i_going : Int32) (p_i_writesLeft : Int32) (a1 : Int32)  : vx_Met l y_K_cutAfter k_K_cutAfter ({ frames := 7, cells := 1, slots := 6, locals := 105 } : Room) (va_Pc [.ref h0, .int a1] (fun U => pc_E (dC, dI) [(h0, .inr (0, [v_documents, v_buffer, v_fetched, v_compared, v_maker, v_writer, .ref hp, .int i_madeDocuments, .int i_fetchedSteps])), (hp, .inr (4, [.int 1, .int p_i_going, .int p_i_writesLeft]))] [] sz U ∧ tw_ok U)) (va_Qi (fun (_ : Int32) (_ : Unit) => False) (fun _ _ => True) (va_A [(h0, .inr (0, [v_documents, v_buffer, v_fetched, v_compared, v_maker, v_writer, .ref hp, .int i_madeDocuments, .int i_fetchedSteps])), (hp, .inr (4, [.int 1, .int p_i_going, .int p_i_writesLeft]))] sz)) (vx_X (fun _ : Unit => True) (fun E _ t => E = "java/lang/IllegalStateException" ∧ at_E (dC, dI) (va_A [(h0, .inr (0, [v_documents, v_buffer, v_fetched, v_compared, v_maker, v_writer, .ref hp, .int i_madeDocuments, .int i_fetchedSteps])), (hp, .inr (4, [.int 1, .int p_i_going, .int p_i_writesLeft]))] sz) [(h0, .inr (0, [v_documents, v_buffer, v_fetched, v_compared, v_maker, v_writer, .ref hp, .int i_madeDocuments, .int i_fetchedSteps])), (hp, .inr (4, [.int 1, .int p_i_going, .int p_i_writesLeft]))] [] t) (va_A [(h0, .inr (0, [v_documents, v_buffer, v_fetched, v_compared, v_maker, v_writer, .ref hp, .int i_madeDocuments, .int i_fetchedSteps])), (hp, .inr (4, [.int 1, .int p_i_going, .int p_i_writesLeft]))] sz)) 1 6 (va_A [(h0, .inr (0, [v_documents, v_buffer, v_fetched, v_compared, v_maker, v_writer, .ref hp, .int i_madeDocuments, .int i_fetchedSteps])), (hp, .inr (4, [.int 1, .int p_i_going, .int p_i_writesLeft]))] sz) := by
  refine vx_ofW (cc := prog_1_method_18_code) (maxL := 2) (ret := (some .boolean)) (by decide) rfl ?_
  intro p e s m args below meth c s₁ B hml htab hv
  obtain ⟨rfl, ⟨hsz, hP, hK, hD0, hN⟩, hTw⟩ := hv
  have hx := B.exec
  have hb := B.bytes
  have hr := B.returns
  have hts := atoms_spec (ws := k_K_cutAfter) B.pre
  have hw0 : ∀ w ∈ w0, w.before _ s = true := fun w h => hts w (List.mem_cons_of_mem _ h)
  have hown : s.vm.findClass R_K = some m.cls := findClass_of_methodNamed B.named
  have hlocks := B.notSynchronized
  subst hsz
  have hD := hD0.self (sz := s.heap.size)
  have hTwA := tw_A hTw hP
  generalize hAe : va_A [(h0, .inr (0, [v_documents, v_buffer, v_fetched, v_compared, v_maker, v_writer, .ref hp, .int i_madeDocuments, .int i_fetchedSteps])), (hp, .inr (4, [.int 1, .int p_i_going, .int p_i_writesLeft]))] s.heap.size = A at hD hTwA ⊢
  have hA : ∀ q : Nat, s.heap.size ≤ q → A q := fun q h => by rw [← hAe]; exact Or.inr h
  have hS : va_S A s.heap s.heap [] := va_S.rf
  have hP : va_P (dC, dI) vwCl [(h0, .inr (0, [v_documents, v_buffer, v_fetched, v_compared, v_maker, v_writer, .ref hp, .int i_madeDocuments, .int i_fetchedSteps])), (hp, .inr (4, [.int 1, .int p_i_going, .int p_i_writesLeft]))] s.heap := hP
  have hl := lv_entry ([.ref h0, .int a1]) (n := 2) (Nat.le_of_ble_eq_true rfl)
  rw [lg_entry_eq]
  generalize (lg_sl ([.ref h0, .int a1]) ++ List.replicate (2 - (lg_sl ([.ref h0, .int a1])).length) Slot.unset).toArray = ls at hl ⊢
  have hl : lv_has ls 2 [(0, .ref h0), (1, .int a1)] := hl
  refine lv_aload_n hx hb d_K_cutAfter_0 rfl (lv_at hl 0 rfl) ?_
  have hPc := hP.sub (ws' := [(h0, .inr (0, [v_documents, v_buffer, v_fetched, v_compared, v_maker, v_writer, .ref hp, .int i_madeDocuments, .int i_fetchedSteps])), (hp, .inr (4, [.int 1, .int p_i_going, .int p_i_writesLeft]))]) [0, 1] rfl
  have hKc := hK.sub (tys' := []) [] rfl
  have hDc := hD.sub (ws' := [(h0, .inr (0, [v_documents, v_buffer, v_fetched, v_compared, v_maker, v_writer, .ref hp, .int i_madeDocuments, .int i_fetchedSteps])), (hp, .inr (4, [.int 1, .int p_i_going, .int p_i_writesLeft]))]) [0, 1] (by decide) rfl
  have hFc := va_free (wc := [(h0, .inr (0, [v_documents, v_buffer, v_fetched, v_compared, v_maker, v_writer, .ref hp, .int i_madeDocuments, .int i_fetchedSteps])), (hp, .inr (4, [.int 1, .int p_i_going, .int p_i_writesLeft]))]) hD hS hA [0, 1] rfl
  refine vx_callv (vx_runV (As := []) (rest := []) ⟨hx, hb, hml, hown, hw0⟩ (x_needPower l hl9 dC dI s.heap.size h0 v_documents v_buffer v_fetched v_compared v_maker v_writer i_madeDocuments i_fetchedSteps hp p_i_going p_i_writesLeft ) (cwV 0 hw0 (gd_Vm wm_322 wm_323 wm_324 wm_226 wm_325) rfl rfl rfl (by decide +kernel) ⟨by decide +kernel, by decide +kernel⟩) (prV_X hPc hKc hDc hN (hTwA.at hS) (va_recv hKc hPc (ci := 0) (q0 := 0) rfl rfl)) rfl rfl hl.1 rfl (lv_room (Nat.le_of_ble_eq_true rfl)) d_K_cutAfter_1 ⟨by decide +kernel, by decide +kernel⟩) hS (fun q _ h => hFc q h) hFc (fun q _ h => hFc q h) (fun E ce q9 u t H1 locs ht hvm hw hB hz1 hk1 hS hce hcv hcl => ?_) (fun u t H1 locs ht hvm hw hB hz1 hk1 hS => False.elim hw)
  obtain ⟨rfl, hP1, hK1, hD1⟩ := hB
  rw [ht] at hP1
  have hK1 := va_K.moved hvm.symm hK1
  obtain ⟨hP, hD⟩ := va_join (wr := []) (w1 := [(h0, .inr (0, [v_documents, v_buffer, v_fetched, v_compared, v_maker, v_writer, .ref hp, .int i_madeDocuments, .int i_fetchedSteps])), (hp, .inr (4, [.int 1, .int p_i_going, .int p_i_writesLeft]))]) hP hD [0, 1] [] rfl rfl (by decide) (by decide) hk1 hFc hP1 hD1
  generalize H1 = H at hP hS hce ⊢
  replace hP : va_P (dC, dI) vwCl [(h0, .inr (0, [v_documents, v_buffer, v_fetched, v_compared, v_maker, v_writer, .ref hp, .int i_madeDocuments, .int i_fetchedSteps])), (hp, .inr (4, [.int 1, .int p_i_going, .int p_i_writesLeft]))] H := hP
  replace hD : va_D A [(h0, .inr (0, [v_documents, v_buffer, v_fetched, v_compared, v_maker, v_writer, .ref hp, .int i_madeDocuments, .int i_fetchedSteps])), (hp, .inr (4, [.int 1, .int p_i_going, .int p_i_writesLeft]))] := hD
  have hP9 := hP.sub (ws' := [(h0, .inr (0, [v_documents, v_buffer, v_fetched, v_compared, v_maker, v_writer, .ref hp, .int i_madeDocuments, .int i_fetchedSteps])), (hp, .inr (4, [.int 1, .int p_i_going, .int p_i_writesLeft]))]) [0, 1] rfl
  have hD9 := hD.sub (ws' := [(h0, .inr (0, [v_documents, v_buffer, v_fetched, v_compared, v_maker, v_writer, .ref hp, .int i_madeDocuments, .int i_fetchedSteps])), (hp, .inr (4, [.int 1, .int p_i_going, .int p_i_writesLeft]))]) [0, 1] (by decide) rfl
  have hK9 := hK.sub (tys' := []) [] rfl
  exact vx_out (fun x hx => (htab x hx).elim) hlocks hce hcv hcl (fun t ht hvm => ⟨(), trivial, ⟨rfl, by rw [ht]; exact hP9, va_K.moved hvm hK9, hD9⟩, hS.F ht⟩) hS.2.2 (by decide +kernel) (by decide +kernel)
set_option maxHeartbeats 4000000 in
set_option maxRecDepth 100000 in
theorem x_spend (l : Launch) (hl9 : l.stackTraces = false) (dC : Nat → ClassId) (dI : Nat → Nat → Nat) (sz : Nat) (h0 : Nat) (v_documents : Value) (v_fetched : Value) (v_compared : Value) (v_maker : Value) (v_writer : Value) (i_madeDocuments : Int32) (i_fetchedSteps : Int32) (hp : Nat) (go : Option Nat) (wl : Int32) (hb1 : Nat) (hy : Nat) (cB : ClassId) (k : Nat) (f : Nat → Int32) (L : List Int32) (n : Nat) (w9 : Nat) (hg : ∀ w, go = some w → wl = nI w ∧ w < 2 ^ 31) (hn : n < 2 ^ 30) (hw9 : go = some w9) (hlt : w9 < n) (htx : tx L k f) (hk : k ≤ 256) : vx_Met l y_K_spendWrites k_K_spendWrites ({ frames := 6, cells := 1, slots := 6, locals := 85 } : Room) (va_Pc [.ref h0, .int (nI n)] (fun U => pc_E (dC, dI) [(h0, .inr (0, [v_documents, .ref hb1, v_fetched, v_compared, v_maker, v_writer, .ref hp, .int i_madeDocuments, .int i_fetchedSteps])), (hp, .inr (4, [.int 0, .int (bI go.isSome), .int wl])), (hb1, .inr (1, [.ref hy, .int (nI k)])), (hy, .inl (cB, 256, .inl (f)))] [(cB, .byte)] sz U ∧ tw_ok U)) (va_Qv (fun (_ : Unit) => False) (fun _ _ => True) (va_A [(h0, .inr (0, [v_documents, .ref hb1, v_fetched, v_compared, v_maker, v_writer, .ref hp, .int i_madeDocuments, .int i_fetchedSteps])), (hp, .inr (4, [.int 0, .int (bI go.isSome), .int wl])), (hb1, .inr (1, [.ref hy, .int (nI k)])), (hy, .inl (cB, 256, .inl (f)))] sz)) (vx_X (fun _ : Unit => True) (fun E _ t => E = "java/lang/IllegalStateException" ∧ at_E (dC, dI) (va_A [(h0, .inr (0, [v_documents, .ref hb1, v_fetched, v_compared, v_maker, v_writer, .ref hp, .int i_madeDocuments, .int i_fetchedSteps])), (hp, .inr (4, [.int 0, .int (bI go.isSome), .int wl])), (hb1, .inr (1, [.ref hy, .int (nI k)])), (hy, .inl (cB, 256, .inl (f)))] sz) [(h0, .inr (0, [v_documents, .ref hb1, v_fetched, v_compared, v_maker, v_writer, .ref hp, .int i_madeDocuments, .int i_fetchedSteps])), (hp, .inr (4, [.int 1, .int (bI go.isSome), .int wl])), (hb1, .inr (1, [.ref hy, .int (nI 0)])), (hy, .inl (cB, 256, .inl (f)))] [(cB, .byte)] t) (va_A [(h0, .inr (0, [v_documents, .ref hb1, v_fetched, v_compared, v_maker, v_writer, .ref hp, .int i_madeDocuments, .int i_fetchedSteps])), (hp, .inr (4, [.int 0, .int (bI go.isSome), .int wl])), (hb1, .inr (1, [.ref hy, .int (nI k)])), (hy, .inl (cB, 256, .inl (f)))] sz)) 1 6 (va_A [(h0, .inr (0, [v_documents, .ref hb1, v_fetched, v_compared, v_maker, v_writer, .ref hp, .int i_madeDocuments, .int i_fetchedSteps])), (hp, .inr (4, [.int 0, .int (bI go.isSome), .int wl])), (hb1, .inr (1, [.ref hy, .int (nI k)])), (hy, .inl (cB, 256, .inl (f)))] sz) := by
  refine vx_ofW (cc := prog_1_method_22_code) (maxL := 2) (ret := none) (by decide) rfl ?_
  intro p e s m args below meth c s₁ B hml htab hv
  obtain ⟨rfl, ⟨hsz, hP, hK, hD0, hN⟩, hTw⟩ := hv
  have hx := B.exec
  have hb := B.bytes
  have hr := B.returns
  have hts := atoms_spec (ws := k_K_spendWrites) B.pre
  have hw0 : ∀ w ∈ w0, w.before _ s = true := fun w h => hts w (List.mem_cons_of_mem _ h)
  have hown : s.vm.findClass R_K = some m.cls := findClass_of_methodNamed B.named
  have hlocks := B.notSynchronized
  subst hsz
  have hD := hD0.self (sz := s.heap.size)
  have hTwA := tw_A hTw hP
  generalize hAe : va_A [(h0, .inr (0, [v_documents, .ref hb1, v_fetched, v_compared, v_maker, v_writer, .ref hp, .int i_madeDocuments, .int i_fetchedSteps])), (hp, .inr (4, [.int 0, .int (bI go.isSome), .int wl])), (hb1, .inr (1, [.ref hy, .int (nI k)])), (hy, .inl (cB, 256, .inl (f)))] s.heap.size = A at hD hTwA ⊢
  have hA : ∀ q : Nat, s.heap.size ≤ q → A q := fun q h => by rw [← hAe]; exact Or.inr h
  have hS : va_S A s.heap s.heap [] := va_S.rf
  have hP : va_P (dC, dI) vwCl [(h0, .inr (0, [v_documents, .ref hb1, v_fetched, v_compared, v_maker, v_writer, .ref hp, .int i_madeDocuments, .int i_fetchedSteps])), (hp, .inr (4, [.int 0, .int (bI go.isSome), .int wl])), (hb1, .inr (1, [.ref hy, .int (nI k)])), (hy, .inl (cB, 256, .inl (f)))] s.heap := hP
  have hl := lv_entry ([.ref h0, .int (nI n)]) (n := 2) (Nat.le_of_ble_eq_true rfl)
  rw [lg_entry_eq]
  generalize (lg_sl ([.ref h0, .int (nI n)]) ++ List.replicate (2 - (lg_sl ([.ref h0, .int (nI n)])).length) Slot.unset).toArray = ls at hl ⊢
  have hl : lv_has ls 2 [(0, .ref h0), (1, .int (nI n))] := hl
  refine lv_aload_n hx hb d_K_spendWrites_0 rfl (lv_at hl 0 rfl) ?_
  refine va_get (D := (dC, dI)) (ci := 0) (v := .ref hp) (C := R_K) (T := F_K) (N := 9) hx hb hw0 in_K hown hK hP 0 rfl rfl 6 (by decide) (hw0 (.fieldLink R_K 45 "TextKeeper" "power" "LTextKeeper$Power;") wm_105) (fun _ h9 => h9) rfl d_K_spendWrites_1 ?_
  refine lv_iload_n hx hb d_K_spendWrites_4 rfl (lv_at hl 1 rfl) ?_
  have hPc := hP.sub (ws' := [(hp, .inr (4, [.int 0, .int (bI go.isSome), .int wl]))]) [1] rfl
  have hKc := hK.sub (tys' := []) [] rfl
  have hDc := hD.sub (ws' := [(hp, .inr (4, [.int 0, .int (bI go.isSome), .int wl]))]) [1] (by decide) rfl
  have hFc := va_free (wc := [(hp, .inr (4, [.int 0, .int (bI go.isSome), .int wl]))]) hD hS hA [1] rfl
  refine va_calli (va_runV (As := [.int (nI n)]) (rest := []) ⟨hx, hb, hml, hown, hw0⟩ (g_lasts_F l dC dI s.heap.size hp _ wl n w9 (by first | assumption | decide | omega) (by first | assumption | decide | omega) (by first | assumption | decide | omega) (by first | assumption | decide | omega)) (cwV 1 hw0 (gd_Vm wm_341 wm_342 wm_343 wm_101 wm_344) rfl rfl rfl (by decide +kernel) ⟨by decide +kernel, by decide +kernel⟩) (prV_E hPc hKc hDc hN (va_recv hKc hPc (ci := 4) (q0 := 0) rfl rfl)) rfl rfl hl.1 rfl (lv_room (Nat.le_of_ble_eq_true rfl)) d_K_spendWrites_5 ⟨by decide +kernel, by decide +kernel⟩) hS (fun q _ h => hFc q h) hFc (fun r_1 u t H1 locs ht hvm hw hB hz1 hk1 hS => ?_)
  obtain ⟨hP1, hK1, hD1⟩ := hB
  rw [ht] at hP1
  have hK1 := va_K.moved hvm.symm hK1
  try dsimp only at hw
  obtain ⟨hP, hD⟩ := va_join (wr := [(h0, .inr (0, [v_documents, .ref hb1, v_fetched, v_compared, v_maker, v_writer, .ref hp, .int i_madeDocuments, .int i_fetchedSteps])), (hb1, .inr (1, [.ref hy, .int (nI k)])), (hy, .inl (cB, 256, .inl (f)))]) (w1 := [(hp, .inr (4, [.int 1, .int (bI go.isSome), .int wl]))]) hP hD [1] [0, 2, 3] rfl rfl (by decide) (by decide) hk1 hFc hP1 hD1
  generalize H1 = H at hP hS ⊢
  replace hP : va_P (dC, dI) vwCl [(h0, .inr (0, [v_documents, .ref hb1, v_fetched, v_compared, v_maker, v_writer, .ref hp, .int i_madeDocuments, .int i_fetchedSteps])), (hb1, .inr (1, [.ref hy, .int (nI k)])), (hy, .inl (cB, 256, .inl (f))), (hp, .inr (4, [.int 1, .int (bI go.isSome), .int wl]))] H := hP
  replace hD : va_D A [(h0, .inr (0, [v_documents, .ref hb1, v_fetched, v_compared, v_maker, v_writer, .ref hp, .int i_madeDocuments, .int i_fetchedSteps])), (hb1, .inr (1, [.ref hy, .int (nI k)])), (hy, .inl (cB, 256, .inl (f))), (hp, .inr (4, [.int 1, .int (bI go.isSome), .int wl]))] := hD
  replace hK : va_K (dC, dI) vwCl [(cB, .byte)] s := hK
  obtain rfl : r_1 = 0 := hw
  refine lv_if_ne (tgt := 28) hx hb d_K_spendWrites_8 (by decide) (fun h9 => absurd h9 (by decide +kernel)) (fun _ => ?_)
  refine lv_aload_n hx hb d_K_spendWrites_11 rfl (lv_at hl 0 rfl) ?_
  refine va_get (D := (dC, dI)) (ci := 0) (v := .ref hb1) (C := R_K) (T := F_K) (N := 9) hx hb hw0 in_K hown hK hP 0 rfl rfl 1 (by decide) (hw0 (.fieldLink R_K 18 "TextKeeper" "buffer" "LTextKeeper$Text;") wm_82) (fun _ h9 => h9) rfl d_K_spendWrites_12 ?_
  refine lv_iconst (v := 0) hx hb d_K_spendWrites_15 (by decide) ?_
  have hPc := hP.sub (ws' := [(hb1, .inr (1, [.ref hy, .int (nI k)])), (hy, .inl (cB, 256, .inl ((f))))]) [1, 2] rfl
  have hKc := hK.sub (tys' := [(cB, .byte)]) [0] rfl
  have hDc := hD.sub (ws' := [(hb1, .inr (1, [.ref hy, .int (nI k)])), (hy, .inl (cB, 256, .inl ((f))))]) [1, 2] (by decide) rfl
  have hFc := va_free (wc := [(hb1, .inr (1, [.ref hy, .int (nI k)])), (hy, .inl (cB, 256, .inl ((f))))]) hD hS hA [1, 2] rfl
  refine va_calli (va_runV (As := [.int 0]) (rest := []) ⟨hx, hb, hml, hown, hw0⟩ (g_shorten_T l dC dI H.size hb1 hy cB k (f) L 0 (by first | assumption | decide | omega) (by first | assumption | decide | omega) (by first | assumption | decide | omega)) (cwV 1 hw0 (gd_Vm wm_331 wm_236 wm_237 wm_69 wm_238) rfl rfl rfl (by decide +kernel) ⟨by decide +kernel, by decide +kernel⟩) (prV_E hPc hKc hDc hN (va_recv hKc hPc (ci := 1) (q0 := 0) rfl rfl)) rfl rfl hl.1 rfl (lv_room (Nat.le_of_ble_eq_true rfl)) d_K_spendWrites_16 ⟨by decide +kernel, by decide +kernel⟩) hS (fun q _ h => hFc q h) hFc (fun r_3 u t H1 locs ht hvm hw hB hz1 hk1 hS => ?_)
  obtain ⟨hu_4, hP1, hK1, hD1⟩ := hB
  rw [ht] at hP1
  have hK1 := va_K.moved hvm.symm hK1
  try dsimp only at hw
  obtain ⟨hP, hD⟩ := va_join (wr := [(h0, .inr (0, [v_documents, .ref hb1, v_fetched, v_compared, v_maker, v_writer, .ref hp, .int i_madeDocuments, .int i_fetchedSteps])), (hp, .inr (4, [.int 1, .int (bI go.isSome), .int wl]))]) (w1 := [(hb1, .inr (1, [.ref hy, .int (nI 0)])), (hy, .inl (cB, 256, .inl ((f))))]) hP hD [1, 2] [0, 3] rfl rfl (by decide) (by decide) hk1 hFc hP1 hD1
  generalize H1 = H at hP hS ⊢
  replace hP : va_P (dC, dI) vwCl [(h0, .inr (0, [v_documents, .ref hb1, v_fetched, v_compared, v_maker, v_writer, .ref hp, .int i_madeDocuments, .int i_fetchedSteps])), (hp, .inr (4, [.int 1, .int (bI go.isSome), .int wl])), (hb1, .inr (1, [.ref hy, .int (nI 0)])), (hy, .inl (cB, 256, .inl ((f))))] H := hP
  replace hD : va_D A [(h0, .inr (0, [v_documents, .ref hb1, v_fetched, v_compared, v_maker, v_writer, .ref hp, .int i_madeDocuments, .int i_fetchedSteps])), (hp, .inr (4, [.int 1, .int (bI go.isSome), .int wl])), (hb1, .inr (1, [.ref hy, .int (nI 0)])), (hy, .inl (cB, 256, .inl ((f))))] := hD
  replace hK : va_K (dC, dI) vwCl [(cB, .byte)] s := hK
  obtain rfl : r_3 = 1 := hw
  refine lv_pop hx hb d_K_spendWrites_19 rfl ?_
  have hP9 := hP.sub (ws' := [(h0, .inr (0, [v_documents, .ref hb1, v_fetched, v_compared, v_maker, v_writer, .ref hp, .int i_madeDocuments, .int i_fetchedSteps])), (hp, .inr (4, [.int 1, .int (bI go.isSome), .int wl])), (hb1, .inr (1, [.ref hy, .int (nI 0)])), (hy, .inl (cB, 256, .inl (f)))]) [0, 1, 2, 3] rfl
  have hD9 := hD.sub (ws' := [(h0, .inr (0, [v_documents, .ref hb1, v_fetched, v_compared, v_maker, v_writer, .ref hp, .int i_madeDocuments, .int i_fetchedSteps])), (hp, .inr (4, [.int 1, .int (bI go.isSome), .int wl])), (hb1, .inr (1, [.ref hy, .int (nI 0)])), (hy, .inl (cB, 256, .inl (f)))]) [0, 1, 2, 3] (by decide) rfl
  have hK9 := hK.sub (tys' := [(cB, .byte)]) [0] rfl
  have tw_at : ∀ w ∈ vx_at0 "TextKeeper" 189 "java/lang/IllegalStateException" ["java/lang/RuntimeException", "java/lang/Exception"], w.before _ s = true := vx_hat (fun w h => hw0 w (twS_1 w h)) twS_2 (fun w h => va_Nw.use (nw0_tab w h) (hN.1 w h))
  exact vx_throw0 (names := ["java/lang/RuntimeException", "java/lang/Exception"]) (ik := 187) (ic := 189) (A := A) hx hb hl9 hown (by decide +kernel) (by decide +kernel) (hw0 (.classLink "TextKeeper" 187 "java/lang/IllegalStateException") wm_435) (hw0 (.initialized "java/lang/IllegalStateException") wm_436) tw_at twS_g hTwA.1 hTwA.2 hS (by rw [hml]; exact hl.1) d_K_spendWrites_20 d_K_spendWrites_23 d_K_spendWrites_24 d_K_spendWrites_27 (fun x hx => (htab x hx).elim) (by decide +kernel) (by decide +kernel) (by decide +kernel) (by decide +kernel) hlocks (fun t hvm hz hk => ⟨(), trivial, ⟨rfl, hP9.kept (fun k q hq => hk _ ((hP9 k q hq).lt)), va_K.moved hvm hK9, hD9⟩, Nat.le_trans hS.1 hz, fun q h hn => (hk q (Nat.lt_of_lt_of_le h hS.1)).trans (hS.2.1 q h hn)⟩) hS.2.2 (by decide +kernel) (by decide +kernel)
end
section
set_option maxHeartbeats 4000000 in
set_option maxRecDepth 100000 in
theorem x_make_X (l : Launch) (hl9 : l.stackTraces = false) (dC : Nat → ClassId) (dI : Nat → Nat → Nat) (sz : Nat) (h0 : Nat) (v_documents : Value) (v_fetched : Value) (v_compared : Value) (v_maker : Value) (v_writer : Value) (i_fetchedSteps : Int32) (hp : Nat) (go : Option Nat) (wl : Int32) (hb1 : Nat) (hy : Nat) (cB : ClassId) (k : Nat) (f : Nat → Int32) (L : List Int32) (w9 : Nat) (nd : Nat) (hg : ∀ w, go = some w → wl = nI w ∧ w < 2 ^ 31) (hw9 : go = some w9) (hlt : w9 < 1) (htx : tx L k f) (hk : k ≤ 256) (hnd : nd < 8) : vx_Met l y_K_make k_K_make ({ frames := 7, cells := 1, slots := 6, locals := 106 } : Room) (va_Pc [.ref h0] (fun U => pc_E (dC, dI) [(h0, .inr (0, [v_documents, .ref hb1, v_fetched, v_compared, v_maker, v_writer, .ref hp, .int (nI nd), .int i_fetchedSteps])), (hp, .inr (4, [.int 0, .int (bI go.isSome), .int wl])), (hb1, .inr (1, [.ref hy, .int (nI k)])), (hy, .inl (cB, 256, .inl (f)))] [(cB, .byte)] sz U ∧ tw_ok U)) (va_Qi (fun (_ : Int32) (_ : Unit) => False) (fun _ _ => True) (va_A [(h0, .inr (0, [v_documents, .ref hb1, v_fetched, v_compared, v_maker, v_writer, .ref hp, .int (nI nd), .int i_fetchedSteps])), (hp, .inr (4, [.int 0, .int (bI go.isSome), .int wl])), (hb1, .inr (1, [.ref hy, .int (nI k)])), (hy, .inl (cB, 256, .inl (f)))] sz)) (vx_X (fun _ : Unit => True) (fun E _ t => E = "java/lang/IllegalStateException" ∧ at_E (dC, dI) (va_A [(h0, .inr (0, [v_documents, .ref hb1, v_fetched, v_compared, v_maker, v_writer, .ref hp, .int (nI nd), .int i_fetchedSteps])), (hp, .inr (4, [.int 0, .int (bI go.isSome), .int wl])), (hb1, .inr (1, [.ref hy, .int (nI k)])), (hy, .inl (cB, 256, .inl (f)))] sz) [(h0, .inr (0, [v_documents, .ref hb1, v_fetched, v_compared, v_maker, v_writer, .ref hp, .int (nI nd), .int i_fetchedSteps])), (hp, .inr (4, [.int 1, .int (bI go.isSome), .int wl])), (hb1, .inr (1, [.ref hy, .int (nI 0)])), (hy, .inl (cB, 256, .inl (f)))] [(cB, .byte)] t) (va_A [(h0, .inr (0, [v_documents, .ref hb1, v_fetched, v_compared, v_maker, v_writer, .ref hp, .int (nI nd), .int i_fetchedSteps])), (hp, .inr (4, [.int 0, .int (bI go.isSome), .int wl])), (hb1, .inr (1, [.ref hy, .int (nI k)])), (hy, .inl (cB, 256, .inl (f)))] sz)) 1 6 (va_A [(h0, .inr (0, [v_documents, .ref hb1, v_fetched, v_compared, v_maker, v_writer, .ref hp, .int (nI nd), .int i_fetchedSteps])), (hp, .inr (4, [.int 0, .int (bI go.isSome), .int wl])), (hb1, .inr (1, [.ref hy, .int (nI k)])), (hy, .inl (cB, 256, .inl (f)))] sz) := by
  refine vx_ofW (cc := prog_1_method_4_code) (maxL := 2) (ret := (some .int)) (by decide) rfl ?_
  intro p e s m args below meth c s₁ B hml htab hv
  obtain ⟨rfl, ⟨hsz, hP, hK, hD0, hN⟩, hTw⟩ := hv
  have hx := B.exec
  have hb := B.bytes
  have hr := B.returns
  have hts := atoms_spec (ws := k_K_make) B.pre
  have hw0 : ∀ w ∈ w0, w.before _ s = true := fun w h => hts w (List.mem_cons_of_mem _ h)
  have hown : s.vm.findClass R_K = some m.cls := findClass_of_methodNamed B.named
  have hlocks := B.notSynchronized
  subst hsz
  have hD := hD0.self (sz := s.heap.size)
  have hTwA := tw_A hTw hP
  generalize hAe : va_A [(h0, .inr (0, [v_documents, .ref hb1, v_fetched, v_compared, v_maker, v_writer, .ref hp, .int (nI nd), .int i_fetchedSteps])), (hp, .inr (4, [.int 0, .int (bI go.isSome), .int wl])), (hb1, .inr (1, [.ref hy, .int (nI k)])), (hy, .inl (cB, 256, .inl (f)))] s.heap.size = A at hD hTwA ⊢
  have hA : ∀ q : Nat, s.heap.size ≤ q → A q := fun q h => by rw [← hAe]; exact Or.inr h
  have hS : va_S A s.heap s.heap [] := va_S.rf
  have hP : va_P (dC, dI) vwCl [(h0, .inr (0, [v_documents, .ref hb1, v_fetched, v_compared, v_maker, v_writer, .ref hp, .int (nI nd), .int i_fetchedSteps])), (hp, .inr (4, [.int 0, .int (bI go.isSome), .int wl])), (hb1, .inr (1, [.ref hy, .int (nI k)])), (hy, .inl (cB, 256, .inl (f)))] s.heap := hP
  have hl := lv_entry ([.ref h0]) (n := 2) (Nat.le_of_ble_eq_true rfl)
  rw [lg_entry_eq]
  generalize (lg_sl ([.ref h0]) ++ List.replicate (2 - (lg_sl ([.ref h0])).length) Slot.unset).toArray = ls at hl ⊢
  have hl : lv_has ls 2 [(0, .ref h0)] := hl
  refine lv_aload_n hx hb d_K_make_0 rfl (lv_at hl 0 rfl) ?_
  have hPc := hP.sub (ws' := [(h0, .inr (0, [v_documents, .ref hb1, v_fetched, v_compared, v_maker, v_writer, .ref hp, .int (nI nd), .int i_fetchedSteps])), (hp, .inr (4, [.int 0, .int (bI go.isSome), .int wl]))]) [0, 1] rfl
  have hKc := hK.sub (tys' := []) [] rfl
  refine ps_v (va_runV (As := []) (rest := []) ⟨hx, hb, hml, hown, hw0⟩ (g_needPower l dC dI h0 v_documents (.ref hb1) v_fetched v_compared v_maker v_writer (nI nd) i_fetchedSteps hp (bI go.isSome) wl) (cwV 0 hw0 (gd_Vm wm_322 wm_323 wm_324 wm_226 wm_325) rfl rfl rfl (by decide +kernel) ⟨by decide +kernel, by decide +kernel⟩) (prV_R hPc hKc hN (va_recv hKc hPc (ci := 0) (q0 := 0) rfl rfl)) rfl rfl hl.1 rfl (lv_room (Nat.le_of_ble_eq_true rfl)) d_K_make_1 ⟨by decide +kernel, by decide +kernel⟩) ?_
  refine lv_aload_n hx hb d_K_make_4 rfl (lv_at hl 0 rfl) ?_
  refine va_get (D := (dC, dI)) (ci := 0) (v := .int (nI nd)) (C := R_K) (T := F_K) (N := 9) hx hb hw0 in_K hown hK hP 0 rfl rfl 7 (by decide) (hw0 (.fieldLink R_K 49 "TextKeeper" "madeDocuments" "I") wm_106) (fun _ h9 => h9) rfl d_K_make_5 ?_
  refine lv_bipush (v := 8) hx hb d_K_make_8 (by decide +kernel) ?_
  refine lv_icmp_lt (tgt := 15) hx hb d_K_make_10 (by decide) (fun c_1 => ?_) (fun c_1 => absurd (nI_lt hnd (by decide)) c_1)
  refine lv_aload_n hx hb d_K_make_15 rfl (lv_at hl 0 rfl) ?_
  refine lv_iconst (v := 1) hx hb d_K_make_16 (by decide) ?_
  have hPc := hP.sub (ws' := [(h0, .inr (0, [v_documents, .ref hb1, v_fetched, v_compared, v_maker, v_writer, .ref hp, .int (nI nd), .int i_fetchedSteps])), (hp, .inr (4, [.int 0, .int (bI go.isSome), .int wl])), (hb1, .inr (1, [.ref hy, .int (nI k)])), (hy, .inl (cB, 256, .inl ((f))))]) [0, 1, 2, 3] rfl
  have hKc := hK.sub (tys' := [(cB, .byte)]) [0] rfl
  have hDc := hD.sub (ws' := [(h0, .inr (0, [v_documents, .ref hb1, v_fetched, v_compared, v_maker, v_writer, .ref hp, .int (nI nd), .int i_fetchedSteps])), (hp, .inr (4, [.int 0, .int (bI go.isSome), .int wl])), (hb1, .inr (1, [.ref hy, .int (nI k)])), (hy, .inl (cB, 256, .inl ((f))))]) [0, 1, 2, 3] (by decide) rfl
  have hFc := va_free (wc := [(h0, .inr (0, [v_documents, .ref hb1, v_fetched, v_compared, v_maker, v_writer, .ref hp, .int (nI nd), .int i_fetchedSteps])), (hp, .inr (4, [.int 0, .int (bI go.isSome), .int wl])), (hb1, .inr (1, [.ref hy, .int (nI k)])), (hy, .inl (cB, 256, .inl ((f))))]) hD hS hA [0, 1, 2, 3] rfl
  refine vx_callv (vx_runV (As := [.int 1]) (rest := []) ⟨hx, hb, hml, hown, hw0⟩ (x_spend l hl9 dC dI s.heap.size h0 v_documents v_fetched v_compared v_maker v_writer (nI nd) i_fetchedSteps hp _ wl hb1 hy cB k (f) L 1 w9 (by first | assumption | decide | omega) (by first | assumption | decide | omega) (by first | assumption | decide | omega) (by first | assumption | decide | omega) (by first | assumption | decide | omega) (by first | assumption | decide | omega)) (cwV 1 hw0 (gd_Vm wm_354 wm_355 wm_356 wm_226 wm_357) rfl rfl rfl (by decide +kernel) ⟨by decide +kernel, by decide +kernel⟩) (prV_X hPc hKc hDc hN (hTwA.at hS) (va_recv hKc hPc (ci := 0) (q0 := 0) rfl rfl)) rfl rfl hl.1 rfl (lv_room (Nat.le_of_ble_eq_true rfl)) d_K_make_17 ⟨by decide +kernel, by decide +kernel⟩) hS (fun q _ h => hFc q h) hFc (fun q _ h => hFc q h) (fun E ce q9 u t H1 locs ht hvm hw hB hz1 hk1 hS hce hcv hcl => ?_) (fun u t H1 locs ht hvm hw hB hz1 hk1 hS => False.elim hw)
  obtain ⟨rfl, hP1, hK1, hD1⟩ := hB
  rw [ht] at hP1
  have hK1 := va_K.moved hvm.symm hK1
  obtain ⟨hP, hD⟩ := va_join (wr := []) (w1 := [(h0, .inr (0, [v_documents, .ref hb1, v_fetched, v_compared, v_maker, v_writer, .ref hp, .int (nI nd), .int i_fetchedSteps])), (hp, .inr (4, [.int 1, .int (bI go.isSome), .int wl])), (hb1, .inr (1, [.ref hy, .int (nI 0)])), (hy, .inl (cB, 256, .inl ((f))))]) hP hD [0, 1, 2, 3] [] rfl rfl (by decide) (by decide) hk1 hFc hP1 hD1
  generalize H1 = H at hP hS hce ⊢
  replace hP : va_P (dC, dI) vwCl [(h0, .inr (0, [v_documents, .ref hb1, v_fetched, v_compared, v_maker, v_writer, .ref hp, .int (nI nd), .int i_fetchedSteps])), (hp, .inr (4, [.int 1, .int (bI go.isSome), .int wl])), (hb1, .inr (1, [.ref hy, .int (nI 0)])), (hy, .inl (cB, 256, .inl ((f))))] H := hP
  replace hD : va_D A [(h0, .inr (0, [v_documents, .ref hb1, v_fetched, v_compared, v_maker, v_writer, .ref hp, .int (nI nd), .int i_fetchedSteps])), (hp, .inr (4, [.int 1, .int (bI go.isSome), .int wl])), (hb1, .inr (1, [.ref hy, .int (nI 0)])), (hy, .inl (cB, 256, .inl ((f))))] := hD
  have hP9 := hP.sub (ws' := [(h0, .inr (0, [v_documents, .ref hb1, v_fetched, v_compared, v_maker, v_writer, .ref hp, .int (nI nd), .int i_fetchedSteps])), (hp, .inr (4, [.int 1, .int (bI go.isSome), .int wl])), (hb1, .inr (1, [.ref hy, .int (nI 0)])), (hy, .inl (cB, 256, .inl (f)))]) [0, 1, 2, 3] rfl
  have hD9 := hD.sub (ws' := [(h0, .inr (0, [v_documents, .ref hb1, v_fetched, v_compared, v_maker, v_writer, .ref hp, .int (nI nd), .int i_fetchedSteps])), (hp, .inr (4, [.int 1, .int (bI go.isSome), .int wl])), (hb1, .inr (1, [.ref hy, .int (nI 0)])), (hy, .inl (cB, 256, .inl (f)))]) [0, 1, 2, 3] (by decide) rfl
  have hK9 := hK.sub (tys' := [(cB, .byte)]) [0] rfl
  exact vx_out (fun x hx => (htab x hx).elim) hlocks hce hcv hcl (fun t ht hvm => ⟨(), trivial, ⟨rfl, by rw [ht]; exact hP9, va_K.moved hvm hK9, hD9⟩, hS.F ht⟩) hS.2.2 (by decide +kernel) (by decide +kernel)
set_option maxHeartbeats 4000000 in
set_option maxRecDepth 100000 in
theorem x_drop_X (l : Launch) (hl9 : l.stackTraces = false) (dC : Nat → ClassId) (dI : Nat → Nat → Nat) (sz : Nat) (h0 : Nat) (v_fetched : Value) (v_compared : Value) (v_maker : Value) (v_writer : Value) (i_madeDocuments : Int32) (i_fetchedSteps : Int32) (hp : Nat) (go : Option Nat) (wl : Int32) (hb1 : Nat) (hy : Nat) (cB : ClassId) (k : Nat) (f : Nat → Int32) (L : List Int32) (w9 : Nat) (hd : Nat) (cD : ClassId) (fD : Nat → Option Nat) (a1 : Int32) (ha : Nat) (hg : ∀ w, go = some w → wl = nI w ∧ w < 2 ^ 31) (hw9 : go = some w9) (hlt : w9 < 1) (htx : tx L k f) (hk : k ≤ 256) (hdS : atN 8 fD a1 = some ha) : vx_Met l y_K_dropDocument k_K_dropDocument ({ frames := 7, cells := 1, slots := 6, locals := 106 } : Room) (va_Pc [.ref h0, .int a1] (fun U => pc_E (dC, dI) [(h0, .inr (0, [.ref hd, .ref hb1, v_fetched, v_compared, v_maker, v_writer, .ref hp, .int i_madeDocuments, .int i_fetchedSteps])), (hp, .inr (4, [.int 0, .int (bI go.isSome), .int wl])), (hd, .inl (cD, 8, .inr (.inr (.inr (.inr (fD)))))), (hb1, .inr (1, [.ref hy, .int (nI k)])), (hy, .inl (cB, 256, .inl (f)))] [(cD, .object R_D), (cB, .byte)] sz U ∧ tw_ok U)) (va_Qi (fun (_ : Int32) (_ : Unit) => False) (fun _ _ => True) (va_A [(h0, .inr (0, [.ref hd, .ref hb1, v_fetched, v_compared, v_maker, v_writer, .ref hp, .int i_madeDocuments, .int i_fetchedSteps])), (hp, .inr (4, [.int 0, .int (bI go.isSome), .int wl])), (hd, .inl (cD, 8, .inr (.inr (.inr (.inr (fD)))))), (hb1, .inr (1, [.ref hy, .int (nI k)])), (hy, .inl (cB, 256, .inl (f)))] sz)) (vx_X (fun _ : Unit => True) (fun E _ t => E = "java/lang/IllegalStateException" ∧ at_E (dC, dI) (va_A [(h0, .inr (0, [.ref hd, .ref hb1, v_fetched, v_compared, v_maker, v_writer, .ref hp, .int i_madeDocuments, .int i_fetchedSteps])), (hp, .inr (4, [.int 0, .int (bI go.isSome), .int wl])), (hd, .inl (cD, 8, .inr (.inr (.inr (.inr (fD)))))), (hb1, .inr (1, [.ref hy, .int (nI k)])), (hy, .inl (cB, 256, .inl (f)))] sz) [(h0, .inr (0, [.ref hd, .ref hb1, v_fetched, v_compared, v_maker, v_writer, .ref hp, .int i_madeDocuments, .int i_fetchedSteps])), (hp, .inr (4, [.int 1, .int (bI go.isSome), .int wl])), (hd, .inl (cD, 8, .inr (.inr (.inr (.inr (fD)))))), (hb1, .inr (1, [.ref hy, .int (nI 0)])), (hy, .inl (cB, 256, .inl (f)))] [(cD, .object R_D), (cB, .byte)] t) (va_A [(h0, .inr (0, [.ref hd, .ref hb1, v_fetched, v_compared, v_maker, v_writer, .ref hp, .int i_madeDocuments, .int i_fetchedSteps])), (hp, .inr (4, [.int 0, .int (bI go.isSome), .int wl])), (hd, .inl (cD, 8, .inr (.inr (.inr (.inr (fD)))))), (hb1, .inr (1, [.ref hy, .int (nI k)])), (hy, .inl (cB, 256, .inl (f)))] sz)) 1 6 (va_A [(h0, .inr (0, [.ref hd, .ref hb1, v_fetched, v_compared, v_maker, v_writer, .ref hp, .int i_madeDocuments, .int i_fetchedSteps])), (hp, .inr (4, [.int 0, .int (bI go.isSome), .int wl])), (hd, .inl (cD, 8, .inr (.inr (.inr (.inr (fD)))))), (hb1, .inr (1, [.ref hy, .int (nI k)])), (hy, .inl (cB, 256, .inl (f)))] sz) := by
  refine vx_ofW (cc := prog_1_method_10_code) (maxL := 2) (ret := (some .boolean)) (by decide) rfl ?_
  intro p e s m args below meth c s₁ B hml htab hv
  obtain ⟨rfl, ⟨hsz, hP, hK, hD0, hN⟩, hTw⟩ := hv
  have hx := B.exec
  have hb := B.bytes
  have hr := B.returns
  have hts := atoms_spec (ws := k_K_dropDocument) B.pre
  have hw0 : ∀ w ∈ w0, w.before _ s = true := fun w h => hts w (List.mem_cons_of_mem _ h)
  have hown : s.vm.findClass R_K = some m.cls := findClass_of_methodNamed B.named
  have hlocks := B.notSynchronized
  subst hsz
  have hD := hD0.self (sz := s.heap.size)
  have hTwA := tw_A hTw hP
  generalize hAe : va_A [(h0, .inr (0, [.ref hd, .ref hb1, v_fetched, v_compared, v_maker, v_writer, .ref hp, .int i_madeDocuments, .int i_fetchedSteps])), (hp, .inr (4, [.int 0, .int (bI go.isSome), .int wl])), (hd, .inl (cD, 8, .inr (.inr (.inr (.inr (fD)))))), (hb1, .inr (1, [.ref hy, .int (nI k)])), (hy, .inl (cB, 256, .inl (f)))] s.heap.size = A at hD hTwA ⊢
  have hA : ∀ q : Nat, s.heap.size ≤ q → A q := fun q h => by rw [← hAe]; exact Or.inr h
  have hS : va_S A s.heap s.heap [] := va_S.rf
  have hP : va_P (dC, dI) vwCl [(h0, .inr (0, [.ref hd, .ref hb1, v_fetched, v_compared, v_maker, v_writer, .ref hp, .int i_madeDocuments, .int i_fetchedSteps])), (hp, .inr (4, [.int 0, .int (bI go.isSome), .int wl])), (hd, .inl (cD, 8, .inr (.inr (.inr (.inr (fD)))))), (hb1, .inr (1, [.ref hy, .int (nI k)])), (hy, .inl (cB, 256, .inl (f)))] s.heap := hP
  have hl := lv_entry ([.ref h0, .int a1]) (n := 2) (Nat.le_of_ble_eq_true rfl)
  rw [lg_entry_eq]
  generalize (lg_sl ([.ref h0, .int a1]) ++ List.replicate (2 - (lg_sl ([.ref h0, .int a1])).length) Slot.unset).toArray = ls at hl ⊢
  have hl : lv_has ls 2 [(0, .ref h0), (1, .int a1)] := hl
  refine lv_aload_n hx hb d_K_dropDocument_0 rfl (lv_at hl 0 rfl) ?_
  have hPc := hP.sub (ws' := [(h0, .inr (0, [.ref hd, .ref hb1, v_fetched, v_compared, v_maker, v_writer, .ref hp, .int i_madeDocuments, .int i_fetchedSteps])), (hp, .inr (4, [.int 0, .int (bI go.isSome), .int wl]))]) [0, 1] rfl
  have hKc := hK.sub (tys' := []) [] rfl
  refine ps_v (va_runV (As := []) (rest := []) ⟨hx, hb, hml, hown, hw0⟩ (g_needPower l dC dI h0 (.ref hd) (.ref hb1) v_fetched v_compared v_maker v_writer i_madeDocuments i_fetchedSteps hp (bI go.isSome) wl) (cwV 0 hw0 (gd_Vm wm_322 wm_323 wm_324 wm_226 wm_325) rfl rfl rfl (by decide +kernel) ⟨by decide +kernel, by decide +kernel⟩) (prV_R hPc hKc hN (va_recv hKc hPc (ci := 0) (q0 := 0) rfl rfl)) rfl rfl hl.1 rfl (lv_room (Nat.le_of_ble_eq_true rfl)) d_K_dropDocument_1 ⟨by decide +kernel, by decide +kernel⟩) ?_
  refine lv_aload_n hx hb d_K_dropDocument_4 rfl (lv_at hl 0 rfl) ?_
  refine lv_iload_n hx hb d_K_dropDocument_5 rfl (lv_at hl 1 rfl) ?_
  have hPc := hP.sub (ws' := [(h0, .inr (0, [.ref hd, .ref hb1, v_fetched, v_compared, v_maker, v_writer, .ref hp, .int i_madeDocuments, .int i_fetchedSteps])), (hd, .inl (cD, 8, .inr (.inr (.inr (.inr ((fD)))))))]) [0, 2] rfl
  have hKc := hK.sub (tys' := [(cD, .object R_D)]) [0] rfl
  refine ps_q (va_runV (As := [.int a1]) (rest := []) ⟨hx, hb, hml, hown, hw0⟩ (g_docAt_S l dC dI h0 (.ref hb1) v_fetched v_compared v_maker v_writer (.ref hp) i_madeDocuments i_fetchedSteps hd cD (fD) a1 ha (by first | assumption | decide | omega)) (cwV 1 hw0 (gd_Vm wm_317 wm_318 wm_319 wm_226 wm_320) rfl rfl rfl (by decide +kernel) ⟨by decide +kernel, by decide +kernel⟩) (prV_R hPc hKc hN (va_recv hKc hPc (ci := 0) (q0 := 0) rfl rfl)) rfl rfl hl.1 rfl (lv_room (Nat.le_of_ble_eq_true rfl)) d_K_dropDocument_6 ⟨by decide +kernel, by decide +kernel⟩) (fun r_1 hr_1 => ?_)
  obtain rfl : r_1 = some ha := hr_1
  refine W.eq (g2 := F0 m 9 ls [.ref ha]) rfl ?_
  refine lv_ifnonnull (tgt := 14) hx hb d_K_dropDocument_9 (by decide) ?_
  refine lv_aload_n hx hb d_K_dropDocument_14 rfl (lv_at hl 0 rfl) ?_
  refine lv_iconst (v := 1) hx hb d_K_dropDocument_15 (by decide) ?_
  have hPc := hP.sub (ws' := [(h0, .inr (0, [.ref hd, .ref hb1, v_fetched, v_compared, v_maker, v_writer, .ref hp, .int i_madeDocuments, .int i_fetchedSteps])), (hp, .inr (4, [.int 0, .int (bI go.isSome), .int wl])), (hb1, .inr (1, [.ref hy, .int (nI k)])), (hy, .inl (cB, 256, .inl ((f))))]) [0, 1, 3, 4] rfl
  have hKc := hK.sub (tys' := [(cB, .byte)]) [1] rfl
  have hDc := hD.sub (ws' := [(h0, .inr (0, [.ref hd, .ref hb1, v_fetched, v_compared, v_maker, v_writer, .ref hp, .int i_madeDocuments, .int i_fetchedSteps])), (hp, .inr (4, [.int 0, .int (bI go.isSome), .int wl])), (hb1, .inr (1, [.ref hy, .int (nI k)])), (hy, .inl (cB, 256, .inl ((f))))]) [0, 1, 3, 4] (by decide) rfl
  have hFc := va_free (wc := [(h0, .inr (0, [.ref hd, .ref hb1, v_fetched, v_compared, v_maker, v_writer, .ref hp, .int i_madeDocuments, .int i_fetchedSteps])), (hp, .inr (4, [.int 0, .int (bI go.isSome), .int wl])), (hb1, .inr (1, [.ref hy, .int (nI k)])), (hy, .inl (cB, 256, .inl ((f))))]) hD hS hA [0, 1, 3, 4] rfl
  refine vx_callv (vx_runV (As := [.int 1]) (rest := []) ⟨hx, hb, hml, hown, hw0⟩ (x_spend l hl9 dC dI s.heap.size h0 (.ref hd) v_fetched v_compared v_maker v_writer i_madeDocuments i_fetchedSteps hp _ wl hb1 hy cB k (f) L 1 w9 (by first | assumption | decide | omega) (by first | assumption | decide | omega) (by first | assumption | decide | omega) (by first | assumption | decide | omega) (by first | assumption | decide | omega) (by first | assumption | decide | omega)) (cwV 1 hw0 (gd_Vm wm_354 wm_355 wm_356 wm_226 wm_357) rfl rfl rfl (by decide +kernel) ⟨by decide +kernel, by decide +kernel⟩) (prV_X hPc hKc hDc hN (hTwA.at hS) (va_recv hKc hPc (ci := 0) (q0 := 0) rfl rfl)) rfl rfl hl.1 rfl (lv_room (Nat.le_of_ble_eq_true rfl)) d_K_dropDocument_16 ⟨by decide +kernel, by decide +kernel⟩) hS (fun q _ h => hFc q h) hFc (fun q _ h => hFc q h) (fun E ce q9 u t H1 locs ht hvm hw hB hz1 hk1 hS hce hcv hcl => ?_) (fun u t H1 locs ht hvm hw hB hz1 hk1 hS => False.elim hw)
  obtain ⟨rfl, hP1, hK1, hD1⟩ := hB
  rw [ht] at hP1
  have hK1 := va_K.moved hvm.symm hK1
  obtain ⟨hP, hD⟩ := va_join (wr := [(hd, .inl (cD, 8, .inr (.inr (.inr (.inr (fD))))))]) (w1 := [(h0, .inr (0, [.ref hd, .ref hb1, v_fetched, v_compared, v_maker, v_writer, .ref hp, .int i_madeDocuments, .int i_fetchedSteps])), (hp, .inr (4, [.int 1, .int (bI go.isSome), .int wl])), (hb1, .inr (1, [.ref hy, .int (nI 0)])), (hy, .inl (cB, 256, .inl ((f))))]) hP hD [0, 1, 3, 4] [2] rfl rfl (by decide) (by decide) hk1 hFc hP1 hD1
  generalize H1 = H at hP hS hce ⊢
  replace hP : va_P (dC, dI) vwCl [(hd, .inl (cD, 8, .inr (.inr (.inr (.inr (fD)))))), (h0, .inr (0, [.ref hd, .ref hb1, v_fetched, v_compared, v_maker, v_writer, .ref hp, .int i_madeDocuments, .int i_fetchedSteps])), (hp, .inr (4, [.int 1, .int (bI go.isSome), .int wl])), (hb1, .inr (1, [.ref hy, .int (nI 0)])), (hy, .inl (cB, 256, .inl ((f))))] H := hP
  replace hD : va_D A [(hd, .inl (cD, 8, .inr (.inr (.inr (.inr (fD)))))), (h0, .inr (0, [.ref hd, .ref hb1, v_fetched, v_compared, v_maker, v_writer, .ref hp, .int i_madeDocuments, .int i_fetchedSteps])), (hp, .inr (4, [.int 1, .int (bI go.isSome), .int wl])), (hb1, .inr (1, [.ref hy, .int (nI 0)])), (hy, .inl (cB, 256, .inl ((f))))] := hD
  have hP9 := hP.sub (ws' := [(h0, .inr (0, [.ref hd, .ref hb1, v_fetched, v_compared, v_maker, v_writer, .ref hp, .int i_madeDocuments, .int i_fetchedSteps])), (hp, .inr (4, [.int 1, .int (bI go.isSome), .int wl])), (hd, .inl (cD, 8, .inr (.inr (.inr (.inr (fD)))))), (hb1, .inr (1, [.ref hy, .int (nI 0)])), (hy, .inl (cB, 256, .inl (f)))]) [1, 2, 0, 3, 4] rfl
  have hD9 := hD.sub (ws' := [(h0, .inr (0, [.ref hd, .ref hb1, v_fetched, v_compared, v_maker, v_writer, .ref hp, .int i_madeDocuments, .int i_fetchedSteps])), (hp, .inr (4, [.int 1, .int (bI go.isSome), .int wl])), (hd, .inl (cD, 8, .inr (.inr (.inr (.inr (fD)))))), (hb1, .inr (1, [.ref hy, .int (nI 0)])), (hy, .inl (cB, 256, .inl (f)))]) [1, 2, 0, 3, 4] (by decide) rfl
  have hK9 := hK.sub (tys' := [(cD, .object R_D), (cB, .byte)]) [0, 1] rfl
  exact vx_out (fun x hx => (htab x hx).elim) hlocks hce hcv hcl (fun t ht hvm => ⟨(), trivial, ⟨rfl, by rw [ht]; exact hP9, va_K.moved hvm hK9, hD9⟩, hS.F ht⟩) hS.2.2 (by decide +kernel) (by decide +kernel)
set_option maxHeartbeats 4000000 in
set_option maxRecDepth 100000 in
theorem x_trim_X (l : Launch) (hl9 : l.stackTraces = false) (dC : Nat → ClassId) (dI : Nat → Nat → Nat) (sz : Nat) (h0 : Nat) (v_fetched : Value) (v_compared : Value) (v_maker : Value) (v_writer : Value) (i_madeDocuments : Int32) (i_fetchedSteps : Int32) (hp : Nat) (go : Option Nat) (wl : Int32) (hb1 : Nat) (hy : Nat) (cB : ClassId) (k : Nat) (f : Nat → Int32) (L : List Int32) (w9 : Nat) (hd : Nat) (cD : ClassId) (fD : Nat → Option Nat) (hdo : Nat) (hra : Nat) (cR : ClassId) (df : Nat) (dn : Nat) (fr : Nat → Option Nat) (a1 : Int32) (r9 : Nat) (hg : ∀ w, go = some w → wl = nI w ∧ w < 2 ^ 31) (hw9 : go = some w9) (hlt : w9 < 1) (htx : tx L k f) (hk : k ≤ 256) (hdS : atN 8 fD a1 = some hdo) (hdn : dn ≤ 64) (ha1 : df ≤ r9) (ha2 : r9 < dn) : vx_Met l y_K_trim k_K_trim ({ frames := 7, cells := 1, slots := 6, locals := 106 } : Room) (va_Pc [.ref h0, .int a1, .int (nI r9)] (fun U => pc_E (dC, dI) [(h0, .inr (0, [.ref hd, .ref hb1, v_fetched, v_compared, v_maker, v_writer, .ref hp, .int i_madeDocuments, .int i_fetchedSteps])), (hp, .inr (4, [.int 0, .int (bI go.isSome), .int wl])), (hd, .inl (cD, 8, .inr (.inr (.inr (.inr (fD)))))), (hb1, .inr (1, [.ref hy, .int (nI k)])), (hy, .inl (cB, 256, .inl (f))), (hdo, .inr (5, [.ref hra, .int (nI df), .int (nI dn)])), (hra, .inl (cR, 64, .inr (.inr (.inr (.inr (fr))))))] [(cD, .object R_D), (cR, .object R_V), (cB, .byte)] sz U ∧ tw_ok U)) (va_Qi (fun (_ : Int32) (_ : Unit) => False) (fun _ _ => True) (va_A [(h0, .inr (0, [.ref hd, .ref hb1, v_fetched, v_compared, v_maker, v_writer, .ref hp, .int i_madeDocuments, .int i_fetchedSteps])), (hp, .inr (4, [.int 0, .int (bI go.isSome), .int wl])), (hd, .inl (cD, 8, .inr (.inr (.inr (.inr (fD)))))), (hb1, .inr (1, [.ref hy, .int (nI k)])), (hy, .inl (cB, 256, .inl (f))), (hdo, .inr (5, [.ref hra, .int (nI df), .int (nI dn)])), (hra, .inl (cR, 64, .inr (.inr (.inr (.inr (fr))))))] sz)) (vx_X (fun _ : Unit => True) (fun E _ t => E = "java/lang/IllegalStateException" ∧ at_E (dC, dI) (va_A [(h0, .inr (0, [.ref hd, .ref hb1, v_fetched, v_compared, v_maker, v_writer, .ref hp, .int i_madeDocuments, .int i_fetchedSteps])), (hp, .inr (4, [.int 0, .int (bI go.isSome), .int wl])), (hd, .inl (cD, 8, .inr (.inr (.inr (.inr (fD)))))), (hb1, .inr (1, [.ref hy, .int (nI k)])), (hy, .inl (cB, 256, .inl (f))), (hdo, .inr (5, [.ref hra, .int (nI df), .int (nI dn)])), (hra, .inl (cR, 64, .inr (.inr (.inr (.inr (fr))))))] sz) [(h0, .inr (0, [.ref hd, .ref hb1, v_fetched, v_compared, v_maker, v_writer, .ref hp, .int i_madeDocuments, .int i_fetchedSteps])), (hp, .inr (4, [.int 1, .int (bI go.isSome), .int wl])), (hd, .inl (cD, 8, .inr (.inr (.inr (.inr (fD)))))), (hb1, .inr (1, [.ref hy, .int (nI 0)])), (hy, .inl (cB, 256, .inl (f))), (hdo, .inr (5, [.ref hra, .int (nI df), .int (nI dn)])), (hra, .inl (cR, 64, .inr (.inr (.inr (.inr (fr))))))] [(cD, .object R_D), (cR, .object R_V), (cB, .byte)] t) (va_A [(h0, .inr (0, [.ref hd, .ref hb1, v_fetched, v_compared, v_maker, v_writer, .ref hp, .int i_madeDocuments, .int i_fetchedSteps])), (hp, .inr (4, [.int 0, .int (bI go.isSome), .int wl])), (hd, .inl (cD, 8, .inr (.inr (.inr (.inr (fD)))))), (hb1, .inr (1, [.ref hy, .int (nI k)])), (hy, .inl (cB, 256, .inl (f))), (hdo, .inr (5, [.ref hra, .int (nI df), .int (nI dn)])), (hra, .inl (cR, 64, .inr (.inr (.inr (.inr (fr))))))] sz)) 1 6 (va_A [(h0, .inr (0, [.ref hd, .ref hb1, v_fetched, v_compared, v_maker, v_writer, .ref hp, .int i_madeDocuments, .int i_fetchedSteps])), (hp, .inr (4, [.int 0, .int (bI go.isSome), .int wl])), (hd, .inl (cD, 8, .inr (.inr (.inr (.inr (fD)))))), (hb1, .inr (1, [.ref hy, .int (nI k)])), (hy, .inl (cB, 256, .inl (f))), (hdo, .inr (5, [.ref hra, .int (nI df), .int (nI dn)])), (hra, .inl (cR, 64, .inr (.inr (.inr (.inr (fr))))))] sz) := by
  refine vx_ofW (cc := prog_1_method_9_code) (maxL := 4) (ret := (some .boolean)) (by decide) rfl ?_
  intro p e s m args below meth c s₁ B hml htab hv
  obtain ⟨rfl, ⟨hsz, hP, hK, hD0, hN⟩, hTw⟩ := hv
  have hx := B.exec
  have hb := B.bytes
  have hr := B.returns
  have hts := atoms_spec (ws := k_K_trim) B.pre
  have hw0 : ∀ w ∈ w0, w.before _ s = true := fun w h => hts w (List.mem_cons_of_mem _ h)
  have hown : s.vm.findClass R_K = some m.cls := findClass_of_methodNamed B.named
  have hlocks := B.notSynchronized
  subst hsz
  have hD := hD0.self (sz := s.heap.size)
  have hTwA := tw_A hTw hP
  generalize hAe : va_A [(h0, .inr (0, [.ref hd, .ref hb1, v_fetched, v_compared, v_maker, v_writer, .ref hp, .int i_madeDocuments, .int i_fetchedSteps])), (hp, .inr (4, [.int 0, .int (bI go.isSome), .int wl])), (hd, .inl (cD, 8, .inr (.inr (.inr (.inr (fD)))))), (hb1, .inr (1, [.ref hy, .int (nI k)])), (hy, .inl (cB, 256, .inl (f))), (hdo, .inr (5, [.ref hra, .int (nI df), .int (nI dn)])), (hra, .inl (cR, 64, .inr (.inr (.inr (.inr (fr))))))] s.heap.size = A at hD hTwA ⊢
  have hA : ∀ q : Nat, s.heap.size ≤ q → A q := fun q h => by rw [← hAe]; exact Or.inr h
  have hS : va_S A s.heap s.heap [] := va_S.rf
  have hP : va_P (dC, dI) vwCl [(h0, .inr (0, [.ref hd, .ref hb1, v_fetched, v_compared, v_maker, v_writer, .ref hp, .int i_madeDocuments, .int i_fetchedSteps])), (hp, .inr (4, [.int 0, .int (bI go.isSome), .int wl])), (hd, .inl (cD, 8, .inr (.inr (.inr (.inr (fD)))))), (hb1, .inr (1, [.ref hy, .int (nI k)])), (hy, .inl (cB, 256, .inl (f))), (hdo, .inr (5, [.ref hra, .int (nI df), .int (nI dn)])), (hra, .inl (cR, 64, .inr (.inr (.inr (.inr (fr))))))] s.heap := hP
  have hl := lv_entry ([.ref h0, .int a1, .int (nI r9)]) (n := 4) (Nat.le_of_ble_eq_true rfl)
  rw [lg_entry_eq]
  generalize (lg_sl ([.ref h0, .int a1, .int (nI r9)]) ++ List.replicate (4 - (lg_sl ([.ref h0, .int a1, .int (nI r9)])).length) Slot.unset).toArray = ls at hl ⊢
  have hl : lv_has ls 4 [(0, .ref h0), (1, .int a1), (2, .int (nI r9))] := hl
  refine lv_aload_n hx hb d_K_trim_0 rfl (lv_at hl 0 rfl) ?_
  have hPc := hP.sub (ws' := [(h0, .inr (0, [.ref hd, .ref hb1, v_fetched, v_compared, v_maker, v_writer, .ref hp, .int i_madeDocuments, .int i_fetchedSteps])), (hp, .inr (4, [.int 0, .int (bI go.isSome), .int wl]))]) [0, 1] rfl
  have hKc := hK.sub (tys' := []) [] rfl
  refine ps_v (va_runV (As := []) (rest := []) ⟨hx, hb, hml, hown, hw0⟩ (g_needPower l dC dI h0 (.ref hd) (.ref hb1) v_fetched v_compared v_maker v_writer i_madeDocuments i_fetchedSteps hp (bI go.isSome) wl) (cwV 0 hw0 (gd_Vm wm_322 wm_323 wm_324 wm_226 wm_325) rfl rfl rfl (by decide +kernel) ⟨by decide +kernel, by decide +kernel⟩) (prV_R hPc hKc hN (va_recv hKc hPc (ci := 0) (q0 := 0) rfl rfl)) rfl rfl hl.1 rfl (lv_room (Nat.le_of_ble_eq_true rfl)) d_K_trim_1 ⟨by decide +kernel, by decide +kernel⟩) ?_
  refine lv_aload_n hx hb d_K_trim_4 rfl (lv_at hl 0 rfl) ?_
  refine lv_iload_n hx hb d_K_trim_5 rfl (lv_at hl 1 rfl) ?_
  have hPc := hP.sub (ws' := [(h0, .inr (0, [.ref hd, .ref hb1, v_fetched, v_compared, v_maker, v_writer, .ref hp, .int i_madeDocuments, .int i_fetchedSteps])), (hd, .inl (cD, 8, .inr (.inr (.inr (.inr ((fD)))))))]) [0, 2] rfl
  have hKc := hK.sub (tys' := [(cD, .object R_D)]) [0] rfl
  refine ps_q (va_runV (As := [.int a1]) (rest := []) ⟨hx, hb, hml, hown, hw0⟩ (g_docAt_S l dC dI h0 (.ref hb1) v_fetched v_compared v_maker v_writer (.ref hp) i_madeDocuments i_fetchedSteps hd cD (fD) a1 hdo (by first | assumption | decide | omega)) (cwV 1 hw0 (gd_Vm wm_317 wm_318 wm_319 wm_226 wm_320) rfl rfl rfl (by decide +kernel) ⟨by decide +kernel, by decide +kernel⟩) (prV_R hPc hKc hN (va_recv hKc hPc (ci := 0) (q0 := 0) rfl rfl)) rfl rfl hl.1 rfl (lv_room (Nat.le_of_ble_eq_true rfl)) d_K_trim_6 ⟨by decide +kernel, by decide +kernel⟩) (fun r_1 hr_1 => ?_)
  obtain rfl : r_1 = some hdo := hr_1
  refine W.eq (g2 := F0 m 9 ls [.ref hdo]) rfl ?_
  refine lv_astore_n (lv' := [(3, .ref hdo), (0, .ref h0), (1, .int a1), (2, .int (nI r9))]) hx hb d_K_trim_9 rfl hl (by decide) rfl (fun ls hl => ?_)
  refine lv_aload_n hx hb d_K_trim_10 rfl (lv_at hl 0 rfl) ?_
  refine lv_ifnull hx hb d_K_trim_11 ?_
  refine lv_aload_n hx hb d_K_trim_14 rfl (lv_at hl 0 rfl) ?_
  refine lv_iload_n hx hb d_K_trim_15 rfl (lv_at hl 3 rfl) ?_
  have hPc := hP.sub (ws' := [(hdo, .inr (5, [.ref hra, .int (nI df), .int (nI dn)])), (hra, .inl (cR, 64, .inr (.inr (.inr (.inr ((fr)))))))]) [5, 6] rfl
  have hKc := hK.sub (tys' := [(cR, .object R_V)]) [1] rfl
  refine ps_i (va_runV (As := [.int (nI r9)]) (rest := []) ⟨hx, hb, hml, hown, hw0⟩ (g_asked_T l dC dI hdo hra cR df dn (fr) r9 (by first | assumption | decide | omega) (by first | assumption | decide | omega) (by first | assumption | decide | omega)) (cwV 1 hw0 (gd_Vm wm_370 wm_371 wm_372 wm_233 wm_373) rfl rfl rfl (by decide +kernel) ⟨by decide +kernel, by decide +kernel⟩) (prV_R hPc hKc hN (va_recv hKc hPc (ci := 5) (q0 := 0) rfl rfl)) rfl rfl hl.1 rfl (lv_room (Nat.le_of_ble_eq_true rfl)) d_K_trim_16 ⟨by decide +kernel, by decide +kernel⟩) (fun r_2 hr_2 => ?_)
  obtain rfl : r_2 = 1 := hr_2
  refine lv_if_ne (tgt := 24) hx hb d_K_trim_19 (by decide) (fun _ => ?_) (fun h9 => absurd h9 (by decide +kernel))
  refine lv_aload_n hx hb d_K_trim_24 rfl (lv_at hl 1 rfl) ?_
  refine lv_iconst (v := 1) hx hb d_K_trim_25 (by decide) ?_
  have hPc := hP.sub (ws' := [(h0, .inr (0, [.ref hd, .ref hb1, v_fetched, v_compared, v_maker, v_writer, .ref hp, .int i_madeDocuments, .int i_fetchedSteps])), (hp, .inr (4, [.int 0, .int (bI go.isSome), .int wl])), (hb1, .inr (1, [.ref hy, .int (nI k)])), (hy, .inl (cB, 256, .inl ((f))))]) [0, 1, 3, 4] rfl
  have hKc := hK.sub (tys' := [(cB, .byte)]) [2] rfl
  have hDc := hD.sub (ws' := [(h0, .inr (0, [.ref hd, .ref hb1, v_fetched, v_compared, v_maker, v_writer, .ref hp, .int i_madeDocuments, .int i_fetchedSteps])), (hp, .inr (4, [.int 0, .int (bI go.isSome), .int wl])), (hb1, .inr (1, [.ref hy, .int (nI k)])), (hy, .inl (cB, 256, .inl ((f))))]) [0, 1, 3, 4] (by decide) rfl
  have hFc := va_free (wc := [(h0, .inr (0, [.ref hd, .ref hb1, v_fetched, v_compared, v_maker, v_writer, .ref hp, .int i_madeDocuments, .int i_fetchedSteps])), (hp, .inr (4, [.int 0, .int (bI go.isSome), .int wl])), (hb1, .inr (1, [.ref hy, .int (nI k)])), (hy, .inl (cB, 256, .inl ((f))))]) hD hS hA [0, 1, 3, 4] rfl
  refine vx_callv (vx_runV (As := [.int 1]) (rest := []) ⟨hx, hb, hml, hown, hw0⟩ (x_spend l hl9 dC dI s.heap.size h0 (.ref hd) v_fetched v_compared v_maker v_writer i_madeDocuments i_fetchedSteps hp _ wl hb1 hy cB k (f) L 1 w9 (by first | assumption | decide | omega) (by first | assumption | decide | omega) (by first | assumption | decide | omega) (by first | assumption | decide | omega) (by first | assumption | decide | omega) (by first | assumption | decide | omega)) (cwV 1 hw0 (gd_Vm wm_354 wm_355 wm_356 wm_226 wm_357) rfl rfl rfl (by decide +kernel) ⟨by decide +kernel, by decide +kernel⟩) (prV_X hPc hKc hDc hN (hTwA.at hS) (va_recv hKc hPc (ci := 0) (q0 := 0) rfl rfl)) rfl rfl hl.1 rfl (lv_room (Nat.le_of_ble_eq_true rfl)) d_K_trim_26 ⟨by decide +kernel, by decide +kernel⟩) hS (fun q _ h => hFc q h) hFc (fun q _ h => hFc q h) (fun E ce q9 u t H1 locs ht hvm hw hB hz1 hk1 hS hce hcv hcl => ?_) (fun u t H1 locs ht hvm hw hB hz1 hk1 hS => False.elim hw)
  obtain ⟨rfl, hP1, hK1, hD1⟩ := hB
  rw [ht] at hP1
  have hK1 := va_K.moved hvm.symm hK1
  obtain ⟨hP, hD⟩ := va_join (wr := [(hd, .inl (cD, 8, .inr (.inr (.inr (.inr (fD)))))), (hdo, .inr (5, [.ref hra, .int (nI df), .int (nI dn)])), (hra, .inl (cR, 64, .inr (.inr (.inr (.inr (fr))))))]) (w1 := [(h0, .inr (0, [.ref hd, .ref hb1, v_fetched, v_compared, v_maker, v_writer, .ref hp, .int i_madeDocuments, .int i_fetchedSteps])), (hp, .inr (4, [.int 1, .int (bI go.isSome), .int wl])), (hb1, .inr (1, [.ref hy, .int (nI 0)])), (hy, .inl (cB, 256, .inl ((f))))]) hP hD [0, 1, 3, 4] [2, 5, 6] rfl rfl (by decide) (by decide) hk1 hFc hP1 hD1
  generalize H1 = H at hP hS hce ⊢
  replace hP : va_P (dC, dI) vwCl [(hd, .inl (cD, 8, .inr (.inr (.inr (.inr (fD)))))), (hdo, .inr (5, [.ref hra, .int (nI df), .int (nI dn)])), (hra, .inl (cR, 64, .inr (.inr (.inr (.inr (fr)))))), (h0, .inr (0, [.ref hd, .ref hb1, v_fetched, v_compared, v_maker, v_writer, .ref hp, .int i_madeDocuments, .int i_fetchedSteps])), (hp, .inr (4, [.int 1, .int (bI go.isSome), .int wl])), (hb1, .inr (1, [.ref hy, .int (nI 0)])), (hy, .inl (cB, 256, .inl ((f))))] H := hP
  replace hD : va_D A [(hd, .inl (cD, 8, .inr (.inr (.inr (.inr (fD)))))), (hdo, .inr (5, [.ref hra, .int (nI df), .int (nI dn)])), (hra, .inl (cR, 64, .inr (.inr (.inr (.inr (fr)))))), (h0, .inr (0, [.ref hd, .ref hb1, v_fetched, v_compared, v_maker, v_writer, .ref hp, .int i_madeDocuments, .int i_fetchedSteps])), (hp, .inr (4, [.int 1, .int (bI go.isSome), .int wl])), (hb1, .inr (1, [.ref hy, .int (nI 0)])), (hy, .inl (cB, 256, .inl ((f))))] := hD
  have hP9 := hP.sub (ws' := [(h0, .inr (0, [.ref hd, .ref hb1, v_fetched, v_compared, v_maker, v_writer, .ref hp, .int i_madeDocuments, .int i_fetchedSteps])), (hp, .inr (4, [.int 1, .int (bI go.isSome), .int wl])), (hd, .inl (cD, 8, .inr (.inr (.inr (.inr (fD)))))), (hb1, .inr (1, [.ref hy, .int (nI 0)])), (hy, .inl (cB, 256, .inl (f))), (hdo, .inr (5, [.ref hra, .int (nI df), .int (nI dn)])), (hra, .inl (cR, 64, .inr (.inr (.inr (.inr (fr))))))]) [3, 4, 0, 5, 6, 1, 2] rfl
  have hD9 := hD.sub (ws' := [(h0, .inr (0, [.ref hd, .ref hb1, v_fetched, v_compared, v_maker, v_writer, .ref hp, .int i_madeDocuments, .int i_fetchedSteps])), (hp, .inr (4, [.int 1, .int (bI go.isSome), .int wl])), (hd, .inl (cD, 8, .inr (.inr (.inr (.inr (fD)))))), (hb1, .inr (1, [.ref hy, .int (nI 0)])), (hy, .inl (cB, 256, .inl (f))), (hdo, .inr (5, [.ref hra, .int (nI df), .int (nI dn)])), (hra, .inl (cR, 64, .inr (.inr (.inr (.inr (fr))))))]) [3, 4, 0, 5, 6, 1, 2] (by decide) rfl
  have hK9 := hK.sub (tys' := [(cD, .object R_D), (cR, .object R_V), (cB, .byte)]) [0, 1, 2] rfl
  exact vx_out (fun x hx => (htab x hx).elim) hlocks hce hcv hcl (fun t ht hvm => ⟨(), trivial, ⟨rfl, by rw [ht]; exact hP9, va_K.moved hvm hK9, hD9⟩, hS.F ht⟩) hS.2.2 (by decide +kernel) (by decide +kernel)
set_option maxHeartbeats 4000000 in
set_option maxRecDepth 100000 in
theorem x_commit_X (l : Launch) (hl9 : l.stackTraces = false) (dC : Nat → ClassId) (dI : Nat → Nat → Nat) (sz : Nat) (h0 : Nat) (v_fetched : Value) (v_compared : Value) (i_madeDocuments : Int32) (i_fetchedSteps : Int32) (hp : Nat) (go : Option Nat) (wl : Int32) (hd : Nat) (cD : ClassId) (ds : Nat → Option Dc) (hmk : Nat) (hta : Nat) (hty : Nat) (hba : Nat) (hby : Nat) (cB : ClassId) (k : Nat) (f : Nat → Int32) (kb : Nat) (fb : Nat → Int32) (vp : Value) (a0 : Int32) (T : List Int32) (Bs : List Int32) (hwr : Nat) (hrw : Nat) (q : Nat) (g : Nat → Int32) (hb1 : Nat) (hy : Nat) (ku : Nat) (fu : Nat → Int32) (L : List Int32) (hdo : Nat) (hra : Nat) (cR : ClassId) (df : Nat) (dn : Nat) (rv : Nat → Option Rc) (pl : va_W) (i : Nat) (a2 : Int32) (Y : List Int32) (w9 : Nat) (hg : ∀ w, go = some w → wl = nI w ∧ w < 2 ^ 31) (htt : tx T k f) (hk : k ≤ 256) (htb : tx Bs kb fb) (hkb : kb ≤ 256) (hbu : tx L ku fu) (hku : ku ≤ 256) (hi8 : i < 8) (hdi : ds i = some ⟨hdo, hra, df, dn, rv⟩) (hdn : dn < 64) (hpl : plR cB rv pl) (hok : rvOk rv) (hpd : plD cB cR ds (dcH cR ⟨hdo, hra, df, dn, rv⟩ ++ pl)) (hdk : dsOk ds) (hus : cfr ds 8 ≤ 512) (hbz : basR rv dn = some Y) (hnr : cfr ds 8 + blk (pce L Y).length ≤ 512) (hw9 : go = some w9) (hlt : w9 < blk (pce L Y).length + 1) : vx_Met l y_K_commit k_K_commit ({ frames := 7, cells := 2, slots := 264, locals := 141 } : Room) (va_Pc [.ref h0, .int (nI i), .int a2] (fun U => pc_E (dC, dI) (([(h0, .inr (0, [.ref hd, .ref hb1, v_fetched, v_compared, .ref hmk, .ref hwr, .ref hp, .int i_madeDocuments, .int i_fetchedSteps])), (hp, .inr (4, [.int 0, .int (bI go.isSome), .int wl])), (hd, .inl (cD, 8, .inr (.inr (.inr (.inr ((dsA ds))))))), (hmk, .inr (2, [.ref hba, .ref hta, vp, .int a0])), (hta, .inr (1, [.ref hty, .int (nI k)])), (hty, .inl (cB, 256, .inl (f))), (hba, .inr (1, [.ref hby, .int (nI kb)])), (hby, .inl (cB, 256, .inl (fb))), (hwr, .inr (3, [.ref hrw, .int (nI q)])), (hrw, .inl (cB, 512, .inl (g))), (hb1, .inr (1, [.ref hy, .int (nI ku)])), (hy, .inl (cB, 256, .inl (fu))), (hdo, .inr (5, [.ref hra, .int (nI df), .int (nI dn)])), (hra, .inl (cR, 64, .inr (.inr (.inr (.inr ((rvA rv)))))))] : va_W) ++ pl) [(cD, .object R_D), (cR, .object R_V), (cB, .byte)] sz U ∧ tw_ok U)) (va_Qi (fun (_ : Int32) (_ : Unit) => False) (fun _ _ => True) (va_A (([(h0, .inr (0, [.ref hd, .ref hb1, v_fetched, v_compared, .ref hmk, .ref hwr, .ref hp, .int i_madeDocuments, .int i_fetchedSteps])), (hp, .inr (4, [.int 0, .int (bI go.isSome), .int wl])), (hd, .inl (cD, 8, .inr (.inr (.inr (.inr ((dsA ds))))))), (hmk, .inr (2, [.ref hba, .ref hta, vp, .int a0])), (hta, .inr (1, [.ref hty, .int (nI k)])), (hty, .inl (cB, 256, .inl (f))), (hba, .inr (1, [.ref hby, .int (nI kb)])), (hby, .inl (cB, 256, .inl (fb))), (hwr, .inr (3, [.ref hrw, .int (nI q)])), (hrw, .inl (cB, 512, .inl (g))), (hb1, .inr (1, [.ref hy, .int (nI ku)])), (hy, .inl (cB, 256, .inl (fu))), (hdo, .inr (5, [.ref hra, .int (nI df), .int (nI dn)])), (hra, .inl (cR, 64, .inr (.inr (.inr (.inr ((rvA rv)))))))] : va_W) ++ pl) sz)) (vx_X (fun _ : Unit => True) (fun E _ t => E = "java/lang/IllegalStateException" ∧ ∃ (hta2 : Nat) (hty2 : Nat) (hba2 : Nat) (hby2 : Nat) (k2 : Nat) (f2 : Nat → Int32) (kb2 : Nat) (fb2 : Nat → Int32) (vp2 : Value) (a2x : Int32) (B2 : List Int32) (q2 : Nat) (g2 : Nat → Int32), ((tx Y k2 f2 ∧ k2 ≤ 256) ∧ (tx B2 kb2 fb2 ∧ kb2 ≤ 256)) ∧ at_E (dC, dI) (va_A (([(h0, .inr (0, [.ref hd, .ref hb1, v_fetched, v_compared, .ref hmk, .ref hwr, .ref hp, .int i_madeDocuments, .int i_fetchedSteps])), (hp, .inr (4, [.int 0, .int (bI go.isSome), .int wl])), (hd, .inl (cD, 8, .inr (.inr (.inr (.inr ((dsA ds))))))), (hmk, .inr (2, [.ref hba, .ref hta, vp, .int a0])), (hta, .inr (1, [.ref hty, .int (nI k)])), (hty, .inl (cB, 256, .inl (f))), (hba, .inr (1, [.ref hby, .int (nI kb)])), (hby, .inl (cB, 256, .inl (fb))), (hwr, .inr (3, [.ref hrw, .int (nI q)])), (hrw, .inl (cB, 512, .inl (g))), (hb1, .inr (1, [.ref hy, .int (nI ku)])), (hy, .inl (cB, 256, .inl (fu))), (hdo, .inr (5, [.ref hra, .int (nI df), .int (nI dn)])), (hra, .inl (cR, 64, .inr (.inr (.inr (.inr ((rvA rv)))))))] : va_W) ++ pl) sz) (([(h0, .inr (0, [.ref hd, .ref hb1, v_fetched, v_compared, .ref hmk, .ref hwr, .ref hp, .int i_madeDocuments, .int i_fetchedSteps])), (hp, .inr (4, [.int 1, .int (bI go.isSome), .int wl])), (hd, .inl (cD, 8, .inr (.inr (.inr (.inr ((dsA ds))))))), (hmk, .inr (2, [.ref hba2, .ref hta2, vp2, .int a2x])), (hta2, .inr (1, [.ref hty2, .int (nI k2)])), (hty2, .inl (cB, 256, .inl (f2))), (hba2, .inr (1, [.ref hby2, .int (nI kb2)])), (hby2, .inl (cB, 256, .inl (fb2))), (hwr, .inr (3, [.ref hrw, .int (nI q2)])), (hrw, .inl (cB, 512, .inl (g2))), (hb1, .inr (1, [.ref hy, .int (nI 0)])), (hy, .inl (cB, 256, .inl (fu))), (hdo, .inr (5, [.ref hra, .int (nI df), .int (nI dn)])), (hra, .inl (cR, 64, .inr (.inr (.inr (.inr ((rvA rv)))))))] : va_W) ++ pl) [(cD, .object R_D), (cR, .object R_V), (cB, .byte)] t) (va_A (([(h0, .inr (0, [.ref hd, .ref hb1, v_fetched, v_compared, .ref hmk, .ref hwr, .ref hp, .int i_madeDocuments, .int i_fetchedSteps])), (hp, .inr (4, [.int 0, .int (bI go.isSome), .int wl])), (hd, .inl (cD, 8, .inr (.inr (.inr (.inr ((dsA ds))))))), (hmk, .inr (2, [.ref hba, .ref hta, vp, .int a0])), (hta, .inr (1, [.ref hty, .int (nI k)])), (hty, .inl (cB, 256, .inl (f))), (hba, .inr (1, [.ref hby, .int (nI kb)])), (hby, .inl (cB, 256, .inl (fb))), (hwr, .inr (3, [.ref hrw, .int (nI q)])), (hrw, .inl (cB, 512, .inl (g))), (hb1, .inr (1, [.ref hy, .int (nI ku)])), (hy, .inl (cB, 256, .inl (fu))), (hdo, .inr (5, [.ref hra, .int (nI df), .int (nI dn)])), (hra, .inl (cR, 64, .inr (.inr (.inr (.inr ((rvA rv)))))))] : va_W) ++ pl) sz)) 2 264 (va_A (([(h0, .inr (0, [.ref hd, .ref hb1, v_fetched, v_compared, .ref hmk, .ref hwr, .ref hp, .int i_madeDocuments, .int i_fetchedSteps])), (hp, .inr (4, [.int 0, .int (bI go.isSome), .int wl])), (hd, .inl (cD, 8, .inr (.inr (.inr (.inr ((dsA ds))))))), (hmk, .inr (2, [.ref hba, .ref hta, vp, .int a0])), (hta, .inr (1, [.ref hty, .int (nI k)])), (hty, .inl (cB, 256, .inl (f))), (hba, .inr (1, [.ref hby, .int (nI kb)])), (hby, .inl (cB, 256, .inl (fb))), (hwr, .inr (3, [.ref hrw, .int (nI q)])), (hrw, .inl (cB, 512, .inl (g))), (hb1, .inr (1, [.ref hy, .int (nI ku)])), (hy, .inl (cB, 256, .inl (fu))), (hdo, .inr (5, [.ref hra, .int (nI df), .int (nI dn)])), (hra, .inl (cR, 64, .inr (.inr (.inr (.inr ((rvA rv)))))))] : va_W) ++ pl) sz) := by
  refine vx_ofW (cc := prog_1_method_5_code) (maxL := 7) (ret := (some .int)) (by decide) rfl ?_
  intro p e s m args below meth c s₁ B hml htab hv
  obtain ⟨rfl, ⟨hsz, hP, hK, hD0, hN⟩, hTw⟩ := hv
  have hx := B.exec
  have hb := B.bytes
  have hr := B.returns
  have hts := atoms_spec (ws := k_K_commit) B.pre
  have hw0 : ∀ w ∈ w0, w.before _ s = true := fun w h => hts w (List.mem_cons_of_mem _ h)
  have hown : s.vm.findClass R_K = some m.cls := findClass_of_methodNamed B.named
  have hlocks := B.notSynchronized
  subst hsz
  have hD := hD0.self (sz := s.heap.size)
  have hTwA := tw_A hTw hP
  generalize hAe : va_A (([(h0, .inr (0, [.ref hd, .ref hb1, v_fetched, v_compared, .ref hmk, .ref hwr, .ref hp, .int i_madeDocuments, .int i_fetchedSteps])), (hp, .inr (4, [.int 0, .int (bI go.isSome), .int wl])), (hd, .inl (cD, 8, .inr (.inr (.inr (.inr ((dsA ds))))))), (hmk, .inr (2, [.ref hba, .ref hta, vp, .int a0])), (hta, .inr (1, [.ref hty, .int (nI k)])), (hty, .inl (cB, 256, .inl (f))), (hba, .inr (1, [.ref hby, .int (nI kb)])), (hby, .inl (cB, 256, .inl (fb))), (hwr, .inr (3, [.ref hrw, .int (nI q)])), (hrw, .inl (cB, 512, .inl (g))), (hb1, .inr (1, [.ref hy, .int (nI ku)])), (hy, .inl (cB, 256, .inl (fu))), (hdo, .inr (5, [.ref hra, .int (nI df), .int (nI dn)])), (hra, .inl (cR, 64, .inr (.inr (.inr (.inr ((rvA rv)))))))] : va_W) ++ pl) s.heap.size = A at hD hTwA ⊢
  have hA : ∀ q : Nat, s.heap.size ≤ q → A q := fun q h => by rw [← hAe]; exact Or.inr h
  have hS : va_S A s.heap s.heap [] := va_S.rf
  have hP : va_P (dC, dI) vwCl (([(h0, .inr (0, [.ref hd, .ref hb1, v_fetched, v_compared, .ref hmk, .ref hwr, .ref hp, .int i_madeDocuments, .int i_fetchedSteps])), (hp, .inr (4, [.int 0, .int (bI go.isSome), .int wl])), (hd, .inl (cD, 8, .inr (.inr (.inr (.inr ((dsA ds))))))), (hmk, .inr (2, [.ref hba, .ref hta, vp, .int a0])), (hta, .inr (1, [.ref hty, .int (nI k)])), (hty, .inl (cB, 256, .inl (f))), (hba, .inr (1, [.ref hby, .int (nI kb)])), (hby, .inl (cB, 256, .inl (fb))), (hwr, .inr (3, [.ref hrw, .int (nI q)])), (hrw, .inl (cB, 512, .inl (g))), (hb1, .inr (1, [.ref hy, .int (nI ku)])), (hy, .inl (cB, 256, .inl (fu))), (hdo, .inr (5, [.ref hra, .int (nI df), .int (nI dn)])), (hra, .inl (cR, 64, .inr (.inr (.inr (.inr ((rvA rv)))))))] : va_W) ++ pl) s.heap := hP
  have hl := lv_entry ([.ref h0, .int (nI i), .int a2]) (n := 7) (Nat.le_of_ble_eq_true rfl)
  rw [lg_entry_eq]
  generalize (lg_sl ([.ref h0, .int (nI i), .int a2]) ++ List.replicate (7 - (lg_sl ([.ref h0, .int (nI i), .int a2])).length) Slot.unset).toArray = ls at hl ⊢
  have hl : lv_has ls 7 [(0, .ref h0), (1, .int (nI i)), (2, .int a2)] := hl
  have hdS : atN 8 (dsA ds) (nI i) = some hdo := (by rw [atN_nI (by decide) hi8]; exact dsA_s hdi)
  refine lv_aload_n hx hb d_K_commit_0 rfl (lv_at hl 0 rfl) ?_
  have hPc := hP.sub (ws' := [(h0, .inr (0, [.ref hd, .ref hb1, v_fetched, v_compared, .ref hmk, .ref hwr, .ref hp, .int i_madeDocuments, .int i_fetchedSteps])), (hp, .inr (4, [.int 0, .int (bI go.isSome), .int wl]))]) [0, 1] rfl
  have hKc := hK.sub (tys' := []) [] rfl
  refine ps_v (va_runV (As := []) (rest := []) ⟨hx, hb, hml, hown, hw0⟩ (g_needPower l dC dI h0 (.ref hd) (.ref hb1) v_fetched v_compared (.ref hmk) (.ref hwr) i_madeDocuments i_fetchedSteps hp (bI go.isSome) wl) (cwV 0 hw0 (gd_Vm wm_322 wm_323 wm_324 wm_226 wm_325) rfl rfl rfl (by decide +kernel) ⟨by decide +kernel, by decide +kernel⟩) (prV_R hPc hKc hN (va_recv hKc hPc (ci := 0) (q0 := 0) rfl rfl)) rfl rfl hl.1 rfl (lv_room (Nat.le_of_ble_eq_true rfl)) d_K_commit_1 ⟨by decide +kernel, by decide +kernel⟩) ?_
  refine lv_aload_n hx hb d_K_commit_4 rfl (lv_at hl 0 rfl) ?_
  refine lv_iload_n hx hb d_K_commit_5 rfl (lv_at hl 1 rfl) ?_
  have hPc := hP.sub (ws' := [(h0, .inr (0, [.ref hd, .ref hb1, v_fetched, v_compared, .ref hmk, .ref hwr, .ref hp, .int i_madeDocuments, .int i_fetchedSteps])), (hd, .inl (cD, 8, .inr (.inr (.inr (.inr (((dsA ds))))))))]) [0, 2] rfl
  have hKc := hK.sub (tys' := [(cD, .object R_D)]) [0] rfl
  refine ps_q (va_runV (As := [.int (nI i)]) (rest := []) ⟨hx, hb, hml, hown, hw0⟩ (g_docAt_S l dC dI h0 (.ref hb1) v_fetched v_compared (.ref hmk) (.ref hwr) (.ref hp) i_madeDocuments i_fetchedSteps hd cD ((dsA ds)) (nI i) hdo (by first | assumption | decide | omega)) (cwV 1 hw0 (gd_Vm wm_317 wm_318 wm_319 wm_226 wm_320) rfl rfl rfl (by decide +kernel) ⟨by decide +kernel, by decide +kernel⟩) (prV_R hPc hKc hN (va_recv hKc hPc (ci := 0) (q0 := 0) rfl rfl)) rfl rfl hl.1 rfl (lv_room (Nat.le_of_ble_eq_true rfl)) d_K_commit_6 ⟨by decide +kernel, by decide +kernel⟩) (fun r_1 hr_1 => ?_)
  obtain rfl : r_1 = some hdo := hr_1
  refine W.eq (g2 := F0 m 9 ls [.ref hdo]) rfl ?_
  refine lv_astore_n (lv' := [(3, .ref hdo), (0, .ref h0), (1, .int (nI i)), (2, .int a2)]) hx hb d_K_commit_9 rfl hl (by decide) rfl (fun ls hl => ?_)
  refine lv_aload_n hx hb d_K_commit_10 rfl (lv_at hl 0 rfl) ?_
  refine lv_ifnull hx hb d_K_commit_11 ?_
  refine lv_aload_n hx hb d_K_commit_14 rfl (lv_at hl 0 rfl) ?_
  have hPc := hP.sub (ws' := [(hdo, .inr (5, [.ref hra, .int (nI df), .int (nI dn)])), (hra, .inl (cR, 64, .inr (.inr (.inr (.inr (((rvA rv))))))))]) [12, 13] rfl
  have hKc := hK.sub (tys' := [(cR, .object R_V)]) [1] rfl
  refine ps_i (va_runV (As := []) (rest := []) ⟨hx, hb, hml, hown, hw0⟩ (g_isFull l dC dI hdo hra cR df dn ((rvA rv)) (by first | assumption | decide | omega)) (cwV 0 hw0 (gd_Vm wm_378 wm_379 wm_380 wm_233 wm_381) rfl rfl rfl (by decide +kernel) ⟨by decide +kernel, by decide +kernel⟩) (prV_R hPc hKc hN (va_recv hKc hPc (ci := 5) (q0 := 0) rfl rfl)) rfl rfl hl.1 rfl (lv_room (Nat.le_of_ble_eq_true rfl)) d_K_commit_15 ⟨by decide +kernel, by decide +kernel⟩) (fun r_2 hr_2 => ?_)
  obtain rfl : r_2 = (bI (decide (64 ≤ dn))) := hr_2
  refine lv_if_eq (tgt := 23) hx hb d_K_commit_18 (by decide) (fun c_3 => ?_) (fun c_3 => absurd (by rw [decide_eq_false (by omega)]; rfl) c_3)
  refine lv_aload_n hx hb d_K_commit_23 rfl (lv_at hl 1 rfl) ?_
  refine va_get (D := (dC, dI)) (ci := 0) (v := .ref hmk) (C := R_K) (T := F_K) (N := 9) hx hb hw0 in_K hown hK hP 0 rfl rfl 4 (by decide) (hw0 (.fieldLink R_K 31 "TextKeeper" "maker" "LTextKeeper$Maker;") wm_91) (fun _ h9 => h9) rfl d_K_commit_24 ?_
  refine lv_aload_n hx hb d_K_commit_27 rfl (lv_at hl 0 rfl) ?_
  refine lv_aload_n hx hb d_K_commit_28 rfl (lv_at hl 0 rfl) ?_
  refine va_getN (D := (dC, dI)) (ci := 5) (v := .int (nI dn)) (C := R_D) (T := F_D) (N := 3) hx hb hw0 in_D hown hK hP 12 rfl rfl 2 (by decide) (va_Nw.use rfl (hN.1 (.fieldLinkNest R_K 82 "TextKeeper$Document" "count" "I" "TextKeeper") (List.mem_of_getElem? (i := 9) rfl))) (fun _ h9 => h9) rfl d_K_commit_29 ?_
  have hPc := hP.part (cx := [(hmk, .inr (2, [.ref hba, .ref hta, vp, .int a0])), (hta, .inr (1, [.ref hty, .int (nI k)])), (hty, .inl (cB, 256, .inl ((f)))), (hba, .inr (1, [.ref hby, .int (nI kb)])), (hby, .inl (cB, 256, .inl ((fb)))), (hdo, .inr (5, [.ref hra, .int (nI df), .int (nI dn)])), (hra, .inl (cR, 64, .inr (.inr (.inr (.inr ((rvA rv)))))))]) [3, 4, 5, 6, 7, 12, 13] rfl
  have hKc := hK.sub (tys' := [(cB, .byte), (cR, .object R_V)]) [2, 1] rfl
  have hDc := hD.part (cx := [(hmk, .inr (2, [.ref hba, .ref hta, vp, .int a0])), (hta, .inr (1, [.ref hty, .int (nI k)])), (hty, .inl (cB, 256, .inl ((f)))), (hba, .inr (1, [.ref hby, .int (nI kb)])), (hby, .inl (cB, 256, .inl ((fb)))), (hdo, .inr (5, [.ref hra, .int (nI df), .int (nI dn)])), (hra, .inl (cR, 64, .inr (.inr (.inr (.inr ((rvA rv)))))))]) [3, 4, 5, 6, 7, 12, 13] (by decide) rfl
  have hFc := va_freeP (cx := [(hmk, .inr (2, [.ref hba, .ref hta, vp, .int a0])), (hta, .inr (1, [.ref hty, .int (nI k)])), (hty, .inl (cB, 256, .inl ((f)))), (hba, .inr (1, [.ref hby, .int (nI kb)])), (hby, .inl (cB, 256, .inl ((fb)))), (hdo, .inr (5, [.ref hra, .int (nI df), .int (nI dn)])), (hra, .inl (cR, 64, .inr (.inr (.inr (.inr ((rvA rv)))))))]) hD hS hA [3, 4, 5, 6, 7, 12, 13] rfl
  refine va_callr (va_runV (As := [.ref hdo, .int (nI dn)]) (rest := []) ⟨hx, hb, hml, hown, hw0⟩ (g_makeBase_S l dC dI s.heap.size hmk hta hty hba hby cB k (f) kb (fb) vp a0 T Bs hdo hra cR df dn _ pl dn Y (by first | assumption | decide | omega) (by first | assumption | decide | omega) (by first | assumption | decide | omega) (by first | assumption | decide | omega) (by first | assumption | decide | omega) (by first | assumption | decide | omega) (by first | assumption | decide | omega) (by first | assumption | decide | omega) (by first | assumption | decide | omega) (by first | assumption | decide | omega)) (cwV 2 hw0 (gd_Vm wm_382 wm_383 wm_384 wm_87 wm_385) rfl rfl rfl (by decide +kernel) ⟨by decide +kernel, by decide +kernel⟩) (prV_E hPc hKc hDc hN (va_recv hKc hPc (ci := 2) (q0 := 0) rfl rfl)) rfl rfl hl.1 rfl (lv_room (Nat.le_of_ble_eq_true rfl)) d_K_commit_32 ⟨by decide +kernel, by decide +kernel⟩) hS (fun q _ h => hFc q h) hFc (fun u ra_4 t H1 locs ht hvm hw hB hz1 hk1 hS => ?_)
  obtain ⟨hty2_5, hba2_6, hby2_7, k2_8, f2_9, kb2_10, fb2_11, vp2_12, a2_13, B2_14, ⟨hu_15_0, hu_15_1⟩, hP1, hK1, hD1⟩ := hB
  rw [ht] at hP1
  have hK1 := va_K.moved hvm.symm hK1
  try dsimp only at hw
  obtain ⟨hP, hD⟩ := va_joinP (wr := [(h0, .inr (0, [.ref hd, .ref hb1, v_fetched, v_compared, .ref hmk, .ref hwr, .ref hp, .int i_madeDocuments, .int i_fetchedSteps])), (hp, .inr (4, [.int 0, .int (bI go.isSome), .int wl])), (hd, .inl (cD, 8, .inr (.inr (.inr (.inr ((dsA ds))))))), (hwr, .inr (3, [.ref hrw, .int (nI q)])), (hrw, .inl (cB, 512, .inl (g))), (hb1, .inr (1, [.ref hy, .int (nI ku)])), (hy, .inl (cB, 256, .inl (fu)))]) (rx := [(hmk, .inr (2, [.ref hba2_6, .ref ra_4, vp2_12, .int a2_13])), (ra_4, .inr (1, [.ref hty2_5, .int (nI k2_8)])), (hty2_5, .inl (cB, 256, .inl (f2_9))), (hba2_6, .inr (1, [.ref hby2_7, .int (nI kb2_10)])), (hby2_7, .inl (cB, 256, .inl (fb2_11))), (hdo, .inr (5, [.ref hra, .int (nI df), .int (nI dn)])), (hra, .inl (cR, 64, .inr (.inr (.inr (.inr ((rvA rv)))))))]) hP hD [3, 4, 5, 6, 7, 12, 13] [0, 1, 2, 8, 9, 10, 11] rfl rfl (by decide) (by decide) hk1 hFc hP1 hD1
  generalize H1 = H at hP hS ⊢
  replace hP : va_P (dC, dI) vwCl (([(h0, .inr (0, [.ref hd, .ref hb1, v_fetched, v_compared, .ref hmk, .ref hwr, .ref hp, .int i_madeDocuments, .int i_fetchedSteps])), (hp, .inr (4, [.int 0, .int (bI go.isSome), .int wl])), (hd, .inl (cD, 8, .inr (.inr (.inr (.inr ((dsA ds))))))), (hwr, .inr (3, [.ref hrw, .int (nI q)])), (hrw, .inl (cB, 512, .inl (g))), (hb1, .inr (1, [.ref hy, .int (nI ku)])), (hy, .inl (cB, 256, .inl (fu))), (hmk, .inr (2, [.ref hba2_6, .ref ra_4, vp2_12, .int a2_13])), (ra_4, .inr (1, [.ref hty2_5, .int (nI k2_8)])), (hty2_5, .inl (cB, 256, .inl (f2_9))), (hba2_6, .inr (1, [.ref hby2_7, .int (nI kb2_10)])), (hby2_7, .inl (cB, 256, .inl (fb2_11))), (hdo, .inr (5, [.ref hra, .int (nI df), .int (nI dn)])), (hra, .inl (cR, 64, .inr (.inr (.inr (.inr ((rvA rv)))))))] : va_W) ++ pl) H := hP
  replace hD : va_D A (([(h0, .inr (0, [.ref hd, .ref hb1, v_fetched, v_compared, .ref hmk, .ref hwr, .ref hp, .int i_madeDocuments, .int i_fetchedSteps])), (hp, .inr (4, [.int 0, .int (bI go.isSome), .int wl])), (hd, .inl (cD, 8, .inr (.inr (.inr (.inr ((dsA ds))))))), (hwr, .inr (3, [.ref hrw, .int (nI q)])), (hrw, .inl (cB, 512, .inl (g))), (hb1, .inr (1, [.ref hy, .int (nI ku)])), (hy, .inl (cB, 256, .inl (fu))), (hmk, .inr (2, [.ref hba2_6, .ref ra_4, vp2_12, .int a2_13])), (ra_4, .inr (1, [.ref hty2_5, .int (nI k2_8)])), (hty2_5, .inl (cB, 256, .inl (f2_9))), (hba2_6, .inr (1, [.ref hby2_7, .int (nI kb2_10)])), (hby2_7, .inl (cB, 256, .inl (fb2_11))), (hdo, .inr (5, [.ref hra, .int (nI df), .int (nI dn)])), (hra, .inl (cR, 64, .inr (.inr (.inr (.inr ((rvA rv)))))))] : va_W) ++ pl) := hD
  replace hK : va_K (dC, dI) vwCl [(cD, .object R_D), (cR, .object R_V), (cB, .byte)] s := hK
  have hY := hu_15_0.1
  have hYk := hu_15_0.2
  · have hz8 := hi8
    refine lv_astore (lv' := [(4, .ref ra_4), (3, .ref hdo), (0, .ref h0), (1, .int (nI i)), (2, .int a2)]) hx hb d_K_commit_35 hl (by decide) rfl (fun ls hl => ?_)
    refine lv_aload hx hb d_K_commit_37 (lv_at hl 0 rfl) ?_
    refine lv_ifnonnull (tgt := 44) hx hb d_K_commit_39 (by decide) ?_
    refine lv_aload_n hx hb d_K_commit_44 rfl (lv_at hl 2 rfl) ?_
    refine va_get (D := (dC, dI)) (ci := 0) (v := .ref hwr) (C := R_K) (T := F_K) (N := 9) hx hb hw0 in_K hown hK hP 0 rfl rfl 5 (by decide) (hw0 (.fieldLink R_K 38 "TextKeeper" "writer" "LTextKeeper$PieceWriter;") wm_98) (fun _ h9 => h9) rfl d_K_commit_45 ?_
    refine lv_aload_n hx hb d_K_commit_48 rfl (lv_at hl 2 rfl) ?_
    refine va_get (D := (dC, dI)) (ci := 0) (v := .ref hb1) (C := R_K) (T := F_K) (N := 9) hx hb hw0 in_K hown hK hP 0 rfl rfl 1 (by decide) (hw0 (.fieldLink R_K 18 "TextKeeper" "buffer" "LTextKeeper$Text;") wm_82) (fun _ h9 => h9) rfl d_K_commit_49 ?_
    refine lv_aload hx hb d_K_commit_52 (lv_at hl 0 rfl) ?_
    have hPc := hP.sub (ws' := [(hwr, .inr (3, [.ref hrw, .int (nI q)])), (hrw, .inl (cB, 512, .inl ((g)))), (hb1, .inr (1, [.ref hy, .int (nI ku)])), (hy, .inl (cB, 256, .inl ((fu)))), (ra_4, .inr (1, [.ref hty2_5, .int (nI k2_8)])), (hty2_5, .inl (cB, 256, .inl ((f2_9))))]) [3, 4, 5, 6, 8, 9] rfl
    have hKc := hK.sub (tys' := [(cB, .byte), (cB, .byte), (cB, .byte)]) [2, 2, 2] rfl
    have hDc := hD.sub (ws' := [(hwr, .inr (3, [.ref hrw, .int (nI q)])), (hrw, .inl (cB, 512, .inl ((g)))), (hb1, .inr (1, [.ref hy, .int (nI ku)])), (hy, .inl (cB, 256, .inl ((fu)))), (ra_4, .inr (1, [.ref hty2_5, .int (nI k2_8)])), (hty2_5, .inl (cB, 256, .inl ((f2_9))))]) [3, 4, 5, 6, 8, 9] (by decide) rfl
    have hFc := va_free (wc := [(hwr, .inr (3, [.ref hrw, .int (nI q)])), (hrw, .inl (cB, 512, .inl ((g)))), (hb1, .inr (1, [.ref hy, .int (nI ku)])), (hy, .inl (cB, 256, .inl ((fu)))), (ra_4, .inr (1, [.ref hty2_5, .int (nI k2_8)])), (hty2_5, .inl (cB, 256, .inl ((f2_9))))]) hD hS hA [3, 4, 5, 6, 8, 9] rfl
    refine va_callr (va_runV (As := [.ref hb1, .ref ra_4]) (rest := []) ⟨hx, hb, hml, hown, hw0⟩ (g_pieceOf l dC dI H.size hwr hrw cB q (g) hb1 hy cB ku (fu) L ra_4 hty2_5 cB k2_8 (f2_9) Y (by first | assumption | decide | omega) (by first | assumption | decide | omega) (by first | assumption | decide | omega) (by first | assumption | decide | omega)) (cwV 2 hw0 (gd_Vm wm_386 wm_387 wm_388 wm_94 wm_389) rfl rfl rfl (by decide +kernel) ⟨by decide +kernel, by decide +kernel⟩) (prV_E hPc hKc hDc hN (va_recv hKc hPc (ci := 3) (q0 := 0) rfl rfl)) rfl rfl hl.1 rfl (lv_room (Nat.le_of_ble_eq_true rfl)) d_K_commit_54 ⟨by decide +kernel, by decide +kernel⟩) hS (fun q _ h => hFc q h) hFc (fun u ra_16 t H1 locs ht hvm hw hB hz1 hk1 hS => ?_)
    obtain ⟨q2_17, g2_18, n_19, cP_20, f2_21, hu_22, hP1, hK1, hD1⟩ := hB
    rw [ht] at hP1
    have hK1 := va_K.moved hvm.symm hK1
    try dsimp only at hw
    obtain ⟨hP, hD⟩ := va_joinQ (wr := [(h0, .inr (0, [.ref hd, .ref hb1, v_fetched, v_compared, .ref hmk, .ref hwr, .ref hp, .int i_madeDocuments, .int i_fetchedSteps])), (hp, .inr (4, [.int 0, .int (bI go.isSome), .int wl])), (hd, .inl (cD, 8, .inr (.inr (.inr (.inr ((dsA ds))))))), (hmk, .inr (2, [.ref hba2_6, .ref ra_4, vp2_12, .int a2_13])), (hba2_6, .inr (1, [.ref hby2_7, .int (nI kb2_10)])), (hby2_7, .inl (cB, 256, .inl (fb2_11))), (hdo, .inr (5, [.ref hra, .int (nI df), .int (nI dn)])), (hra, .inl (cR, 64, .inr (.inr (.inr (.inr ((rvA rv)))))))]) (w1 := [(hwr, .inr (3, [.ref hrw, .int (nI q2_17)])), (hrw, .inl (cB, 512, .inl (g2_18))), (hb1, .inr (1, [.ref hy, .int (nI ku)])), (hy, .inl (cB, 256, .inl ((fu)))), (ra_4, .inr (1, [.ref hty2_5, .int (nI k2_8)])), (hty2_5, .inl (cB, 256, .inl ((f2_9)))), (ra_16, .inl (cP_20, n_19, .inl (f2_21)))]) hP hD [3, 4, 5, 6, 8, 9] [0, 1, 2, 7, 10, 11, 12, 13] rfl rfl (by decide) (by decide) hk1 hFc hP1 hD1
    have hK := hK.app (hK1.sub (tys' := [(cP_20, .byte)]) [3] rfl)
    generalize H1 = H at hP hS ⊢
    replace hP : va_P (dC, dI) vwCl (([(h0, .inr (0, [.ref hd, .ref hb1, v_fetched, v_compared, .ref hmk, .ref hwr, .ref hp, .int i_madeDocuments, .int i_fetchedSteps])), (hp, .inr (4, [.int 0, .int (bI go.isSome), .int wl])), (hd, .inl (cD, 8, .inr (.inr (.inr (.inr ((dsA ds))))))), (hmk, .inr (2, [.ref hba2_6, .ref ra_4, vp2_12, .int a2_13])), (hba2_6, .inr (1, [.ref hby2_7, .int (nI kb2_10)])), (hby2_7, .inl (cB, 256, .inl (fb2_11))), (hdo, .inr (5, [.ref hra, .int (nI df), .int (nI dn)])), (hra, .inl (cR, 64, .inr (.inr (.inr (.inr ((rvA rv))))))), (hwr, .inr (3, [.ref hrw, .int (nI q2_17)])), (hrw, .inl (cB, 512, .inl (g2_18))), (hb1, .inr (1, [.ref hy, .int (nI ku)])), (hy, .inl (cB, 256, .inl ((fu)))), (ra_4, .inr (1, [.ref hty2_5, .int (nI k2_8)])), (hty2_5, .inl (cB, 256, .inl ((f2_9)))), (ra_16, .inl (cP_20, n_19, .inl (f2_21)))] : va_W) ++ pl) H := hP
    replace hD : va_D A (([(h0, .inr (0, [.ref hd, .ref hb1, v_fetched, v_compared, .ref hmk, .ref hwr, .ref hp, .int i_madeDocuments, .int i_fetchedSteps])), (hp, .inr (4, [.int 0, .int (bI go.isSome), .int wl])), (hd, .inl (cD, 8, .inr (.inr (.inr (.inr ((dsA ds))))))), (hmk, .inr (2, [.ref hba2_6, .ref ra_4, vp2_12, .int a2_13])), (hba2_6, .inr (1, [.ref hby2_7, .int (nI kb2_10)])), (hby2_7, .inl (cB, 256, .inl (fb2_11))), (hdo, .inr (5, [.ref hra, .int (nI df), .int (nI dn)])), (hra, .inl (cR, 64, .inr (.inr (.inr (.inr ((rvA rv))))))), (hwr, .inr (3, [.ref hrw, .int (nI q2_17)])), (hrw, .inl (cB, 512, .inl (g2_18))), (hb1, .inr (1, [.ref hy, .int (nI ku)])), (hy, .inl (cB, 256, .inl ((fu)))), (ra_4, .inr (1, [.ref hty2_5, .int (nI k2_8)])), (hty2_5, .inl (cB, 256, .inl ((f2_9)))), (ra_16, .inl (cP_20, n_19, .inl (f2_21)))] : va_W) ++ pl) := hD
    replace hK : va_K (dC, dI) vwCl [(cD, .object R_D), (cR, .object R_V), (cB, .byte), (cP_20, .byte)] s := hK
    refine W.widen (k := 1) (n := 258) (by decide +kernel) (by decide +kernel) ?_
    obtain rfl : cB = cP_20 := hK.one 2 3 rfl rfl
    have hPt := hu_22
    have hpl9 := pce_len L Y
    have hlen : n_19 = (pce L Y).length := hPt.1.symm
    have hn258 : n_19 ≤ 258 := (by rw [hlen]; have h8 := hbu.1; omega)
    have hbk9 := blk_le n_19
    · have hz7 := hi8
      refine lv_astore (lv' := [(5, .ref ra_16), (4, .ref ra_4), (3, .ref hdo), (0, .ref h0), (1, .int (nI i)), (2, .int a2)]) hx hb d_K_commit_57 hl (by decide) rfl (fun ls hl => ?_)
      refine lv_aload hx hb d_K_commit_59 (lv_at hl 0 rfl) ?_
      refine va_alen (v := nI n_19) hx hb hK hP 14 2 rfl rfl (rfl) d_K_commit_61 ?_
      have hPc := hP.sub (ws' := []) [] rfl
      have hKc := hK.sub (tys' := []) [] rfl
      refine ps_i (va_runS (As := [.int (nI n_19)]) (rest := []) ⟨hx, hb, hml, hown, hw0⟩ (g_blocksFor l dC dI n_19 (by first | assumption | decide | omega)) (va_cwS 1 hw0 (gd_S 390 229 226 228 rfl rfl rfl rfl) rfl rfl rfl (by decide +kernel) ⟨by decide +kernel, by decide +kernel⟩) (prS_R hPc hKc hN) rfl rfl hl.1 rfl (lv_room (Nat.le_of_ble_eq_true rfl)) d_K_commit_62 ⟨by decide +kernel, by decide +kernel⟩) (fun r_23 hr_23 => ?_)
      obtain rfl : r_23 = (nI ((n_19 + 31) / 32)) := hr_23
      refine lv_istore (lv' := [(6, .int (nI ((n_19 + 31) / 32))), (5, .ref ra_16), (4, .ref ra_4), (3, .ref hdo), (0, .ref h0), (1, .int (nI i)), (2, .int a2)]) hx hb d_K_commit_65 hl (by decide) rfl (fun ls hl => ?_)
      refine lv_iload hx hb d_K_commit_67 (lv_at hl 0 rfl) ?_
      replace hP := hP.part (cx := [(h0, .inr (0, [.ref hd, .ref hb1, v_fetched, v_compared, .ref hmk, .ref hwr, .ref hp, .int i_madeDocuments, .int i_fetchedSteps])), (hp, .inr (4, [.int 0, .int (bI go.isSome), .int wl])), (hd, .inl (cD, 8, .inr (.inr (.inr (.inr ((dsA ds))))))), (hmk, .inr (2, [.ref hba2_6, .ref ra_4, vp2_12, .int a2_13])), (hba2_6, .inr (1, [.ref hby2_7, .int (nI kb2_10)])), (hby2_7, .inl (cB, 256, .inl (fb2_11))), (hwr, .inr (3, [.ref hrw, .int (nI q2_17)])), (hrw, .inl (cB, 512, .inl (g2_18))), (hb1, .inr (1, [.ref hy, .int (nI ku)])), (hy, .inl (cB, 256, .inl ((fu)))), (ra_4, .inr (1, [.ref hty2_5, .int (nI k2_8)])), (hty2_5, .inl (cB, 256, .inl ((f2_9)))), (ra_16, .inl (cB, n_19, .inl (f2_21))), (hdo, .inr (5, [.ref hra, .int (nI df), .int (nI dn)])), (hra, .inl (cR, 64, .inr (.inr (.inr (.inr ((rvA rv)))))))]) [0, 1, 2, 3, 4, 5, 8, 9, 10, 11, 12, 13, 14, 6, 7] rfl
      replace hD := hD.part (cx := [(h0, .inr (0, [.ref hd, .ref hb1, v_fetched, v_compared, .ref hmk, .ref hwr, .ref hp, .int i_madeDocuments, .int i_fetchedSteps])), (hp, .inr (4, [.int 0, .int (bI go.isSome), .int wl])), (hd, .inl (cD, 8, .inr (.inr (.inr (.inr ((dsA ds))))))), (hmk, .inr (2, [.ref hba2_6, .ref ra_4, vp2_12, .int a2_13])), (hba2_6, .inr (1, [.ref hby2_7, .int (nI kb2_10)])), (hby2_7, .inl (cB, 256, .inl (fb2_11))), (hwr, .inr (3, [.ref hrw, .int (nI q2_17)])), (hrw, .inl (cB, 512, .inl (g2_18))), (hb1, .inr (1, [.ref hy, .int (nI ku)])), (hy, .inl (cB, 256, .inl ((fu)))), (ra_4, .inr (1, [.ref hty2_5, .int (nI k2_8)])), (hty2_5, .inl (cB, 256, .inl ((f2_9)))), (ra_16, .inl (cB, n_19, .inl (f2_21))), (hdo, .inr (5, [.ref hra, .int (nI df), .int (nI dn)])), (hra, .inl (cR, 64, .inr (.inr (.inr (.inr ((rvA rv)))))))]) [0, 1, 2, 3, 4, 5, 8, 9, 10, 11, 12, 13, 14, 6, 7] (by decide) rfl
      replace hP : va_P (dC, dI) vwCl (([(h0, .inr (0, [.ref hd, .ref hb1, v_fetched, v_compared, .ref hmk, .ref hwr, .ref hp, .int i_madeDocuments, .int i_fetchedSteps])), (hp, .inr (4, [.int 0, .int (bI go.isSome), .int wl])), (hd, .inl (cD, 8, .inr (.inr (.inr (.inr ((dsA ds))))))), (hmk, .inr (2, [.ref hba2_6, .ref ra_4, vp2_12, .int a2_13])), (hba2_6, .inr (1, [.ref hby2_7, .int (nI kb2_10)])), (hby2_7, .inl (cB, 256, .inl (fb2_11))), (hwr, .inr (3, [.ref hrw, .int (nI q2_17)])), (hrw, .inl (cB, 512, .inl (g2_18))), (hb1, .inr (1, [.ref hy, .int (nI ku)])), (hy, .inl (cB, 256, .inl ((fu)))), (ra_4, .inr (1, [.ref hty2_5, .int (nI k2_8)])), (hty2_5, .inl (cB, 256, .inl ((f2_9)))), (ra_16, .inl (cB, n_19, .inl (f2_21)))] : va_W) ++ (dcH cR ⟨hdo, hra, df, dn, rv⟩ ++ pl)) H := hP
      replace hD : va_D A (([(h0, .inr (0, [.ref hd, .ref hb1, v_fetched, v_compared, .ref hmk, .ref hwr, .ref hp, .int i_madeDocuments, .int i_fetchedSteps])), (hp, .inr (4, [.int 0, .int (bI go.isSome), .int wl])), (hd, .inl (cD, 8, .inr (.inr (.inr (.inr ((dsA ds))))))), (hmk, .inr (2, [.ref hba2_6, .ref ra_4, vp2_12, .int a2_13])), (hba2_6, .inr (1, [.ref hby2_7, .int (nI kb2_10)])), (hby2_7, .inl (cB, 256, .inl (fb2_11))), (hwr, .inr (3, [.ref hrw, .int (nI q2_17)])), (hrw, .inl (cB, 512, .inl (g2_18))), (hb1, .inr (1, [.ref hy, .int (nI ku)])), (hy, .inl (cB, 256, .inl ((fu)))), (ra_4, .inr (1, [.ref hty2_5, .int (nI k2_8)])), (hty2_5, .inl (cB, 256, .inl ((f2_9)))), (ra_16, .inl (cB, n_19, .inl (f2_21)))] : va_W) ++ (dcH cR ⟨hdo, hra, df, dn, rv⟩ ++ pl)) := hD
      refine lv_aload_n hx hb d_K_commit_69 rfl (lv_at hl 4 rfl) ?_
      have hPc := hP.part (cx := [(h0, .inr (0, [.ref hd, .ref hb1, v_fetched, v_compared, .ref hmk, .ref hwr, .ref hp, .int i_madeDocuments, .int i_fetchedSteps])), (hd, .inl (cD, 8, .inr (.inr (.inr (.inr ((dsA ds)))))))]) [0, 2] rfl
      have hKc := hK.sub (tys' := [(cD, .object R_D), (cR, .object R_V), (cB, .byte)]) [0, 1, 2] rfl
      refine ps_i (va_runV (As := []) (rest := [.int (nI ((n_19 + 31) / 32))]) ⟨hx, hb, hml, hown, hw0⟩ (g_countFree l dC dI h0 (.ref hb1) v_fetched v_compared (.ref hmk) (.ref hwr) (.ref hp) i_madeDocuments i_fetchedSteps hd cD _ _ _ (dcH cR ⟨hdo, hra, df, dn, rv⟩ ++ pl) (by first | assumption | decide | omega) (by first | assumption | decide | omega) (by first | assumption | decide | omega)) (cwV 0 hw0 (gd_Vm wm_366 wm_367 wm_368 wm_226 wm_369) rfl rfl rfl (by decide +kernel) ⟨by decide +kernel, by decide +kernel⟩) (prV_R hPc hKc hN (va_recv hKc hPc (ci := 0) (q0 := 0) rfl rfl)) rfl rfl hl.1 rfl (lv_room (Nat.le_of_ble_eq_true rfl)) d_K_commit_70 ⟨by decide +kernel, by decide +kernel⟩) (fun r_24 hr_24 => ?_)
      obtain rfl : r_24 = (nI (512 - cfr ds 8)) := hr_24
      · replace hP : va_P (dC, dI) vwCl (([(h0, .inr (0, [.ref hd, .ref hb1, v_fetched, v_compared, .ref hmk, .ref hwr, .ref hp, .int i_madeDocuments, .int i_fetchedSteps])), (hp, .inr (4, [.int 0, .int (bI go.isSome), .int wl])), (hd, .inl (cD, 8, .inr (.inr (.inr (.inr ((dsA ds))))))), (hmk, .inr (2, [.ref hba2_6, .ref ra_4, vp2_12, .int a2_13])), (hba2_6, .inr (1, [.ref hby2_7, .int (nI kb2_10)])), (hby2_7, .inl (cB, 256, .inl (fb2_11))), (hwr, .inr (3, [.ref hrw, .int (nI q2_17)])), (hrw, .inl (cB, 512, .inl (g2_18))), (hb1, .inr (1, [.ref hy, .int (nI ku)])), (hy, .inl (cB, 256, .inl ((fu)))), (ra_4, .inr (1, [.ref hty2_5, .int (nI k2_8)])), (hty2_5, .inl (cB, 256, .inl ((f2_9)))), (ra_16, .inl (cB, n_19, .inl (f2_21))), (hdo, .inr (5, [.ref hra, .int (nI df), .int (nI dn)])), (hra, .inl (cR, 64, .inr (.inr (.inr (.inr ((rvA rv)))))))] : va_W) ++ pl) H := hP
        replace hD : va_D A (([(h0, .inr (0, [.ref hd, .ref hb1, v_fetched, v_compared, .ref hmk, .ref hwr, .ref hp, .int i_madeDocuments, .int i_fetchedSteps])), (hp, .inr (4, [.int 0, .int (bI go.isSome), .int wl])), (hd, .inl (cD, 8, .inr (.inr (.inr (.inr ((dsA ds))))))), (hmk, .inr (2, [.ref hba2_6, .ref ra_4, vp2_12, .int a2_13])), (hba2_6, .inr (1, [.ref hby2_7, .int (nI kb2_10)])), (hby2_7, .inl (cB, 256, .inl (fb2_11))), (hwr, .inr (3, [.ref hrw, .int (nI q2_17)])), (hrw, .inl (cB, 512, .inl (g2_18))), (hb1, .inr (1, [.ref hy, .int (nI ku)])), (hy, .inl (cB, 256, .inl ((fu)))), (ra_4, .inr (1, [.ref hty2_5, .int (nI k2_8)])), (hty2_5, .inl (cB, 256, .inl ((f2_9)))), (ra_16, .inl (cB, n_19, .inl (f2_21))), (hdo, .inr (5, [.ref hra, .int (nI df), .int (nI dn)])), (hra, .inl (cR, 64, .inr (.inr (.inr (.inr ((rvA rv)))))))] : va_W) ++ pl) := hD
        refine lv_icmp_le (tgt := 78) hx hb d_K_commit_73 (by decide) (fun c_25 => ?_) (fun c_25 => absurd (nI_le (by rw [hlen]; have h7 : blk (pce L Y).length = ((pce L Y).length + 31) / 32 := rfl; omega) (by omega)) c_25)
        have hlt9 : w9 < blk n_19 + 1 := (by rw [hlen]; exact hlt)
        refine lv_aload_n hx hb d_K_commit_78 rfl (lv_at hl 4 rfl) ?_
        refine lv_iload hx hb d_K_commit_79 (lv_at hl 0 rfl) ?_
        refine lv_iconst (v := 1) hx hb d_K_commit_81 (by decide) ?_
        refine lv_iadd hx hb d_K_commit_82 ?_
        refine lv_topi (fun x_26 ex_26 => ?_)
        obtain rfl : x_26 = (nI (blk n_19 + 1)) := by rw [ex_26]; exact nI_1 _
        clear ex_26
        have hPc := hP.sub (ws' := [(h0, .inr (0, [.ref hd, .ref hb1, v_fetched, v_compared, .ref hmk, .ref hwr, .ref hp, .int i_madeDocuments, .int i_fetchedSteps])), (hp, .inr (4, [.int 0, .int (bI go.isSome), .int wl])), (hb1, .inr (1, [.ref hy, .int (nI ku)])), (hy, .inl (cB, 256, .inl (((fu)))))]) [0, 1, 8, 9] rfl
        have hKc := hK.sub (tys' := [(cB, .byte)]) [2] rfl
        have hDc := hD.sub (ws' := [(h0, .inr (0, [.ref hd, .ref hb1, v_fetched, v_compared, .ref hmk, .ref hwr, .ref hp, .int i_madeDocuments, .int i_fetchedSteps])), (hp, .inr (4, [.int 0, .int (bI go.isSome), .int wl])), (hb1, .inr (1, [.ref hy, .int (nI ku)])), (hy, .inl (cB, 256, .inl (((fu)))))]) [0, 1, 8, 9] (by decide) rfl
        have hFc := va_free (wc := [(h0, .inr (0, [.ref hd, .ref hb1, v_fetched, v_compared, .ref hmk, .ref hwr, .ref hp, .int i_madeDocuments, .int i_fetchedSteps])), (hp, .inr (4, [.int 0, .int (bI go.isSome), .int wl])), (hb1, .inr (1, [.ref hy, .int (nI ku)])), (hy, .inl (cB, 256, .inl (((fu)))))]) hD hS hA [0, 1, 8, 9] rfl
        refine vx_callv (vx_runV (As := [.int (nI (blk n_19 + 1))]) (rest := []) ⟨hx, hb, hml, hown, hw0⟩ (x_spend l hl9 dC dI H.size h0 (.ref hd) v_fetched v_compared (.ref hmk) (.ref hwr) i_madeDocuments i_fetchedSteps hp _ wl hb1 hy cB ku ((fu)) L (blk n_19 + 1) w9 (by first | assumption | decide | omega) (by first | assumption | decide | omega) (by first | assumption | decide | omega) (by first | assumption | decide | omega) (by first | assumption | decide | omega) (by first | assumption | decide | omega)) (cwV 1 hw0 (gd_Vm wm_354 wm_355 wm_356 wm_226 wm_357) rfl rfl rfl (by decide +kernel) ⟨by decide +kernel, by decide +kernel⟩) (prV_X hPc hKc hDc hN (hTwA.at hS) (va_recv hKc hPc (ci := 0) (q0 := 0) rfl rfl)) rfl rfl hl.1 rfl (lv_room (Nat.le_of_ble_eq_true rfl)) d_K_commit_83 ⟨by decide +kernel, by decide +kernel⟩) hS (fun q _ h => hFc q h) hFc (fun q _ h => hFc q h) (fun E ce q9 u t H1 locs ht hvm hw hB hz1 hk1 hS hce hcv hcl => ?_) (fun u t H1 locs ht hvm hw hB hz1 hk1 hS => False.elim hw)
        obtain ⟨rfl, hP1, hK1, hD1⟩ := hB
        rw [ht] at hP1
        have hK1 := va_K.moved hvm.symm hK1
        obtain ⟨hP, hD⟩ := va_joinQ (wr := [(hd, .inl (cD, 8, .inr (.inr (.inr (.inr ((dsA ds))))))), (hmk, .inr (2, [.ref hba2_6, .ref ra_4, vp2_12, .int a2_13])), (hba2_6, .inr (1, [.ref hby2_7, .int (nI kb2_10)])), (hby2_7, .inl (cB, 256, .inl (fb2_11))), (hwr, .inr (3, [.ref hrw, .int (nI q2_17)])), (hrw, .inl (cB, 512, .inl (g2_18))), (ra_4, .inr (1, [.ref hty2_5, .int (nI k2_8)])), (hty2_5, .inl (cB, 256, .inl ((f2_9)))), (ra_16, .inl (cB, n_19, .inl (f2_21))), (hdo, .inr (5, [.ref hra, .int (nI df), .int (nI dn)])), (hra, .inl (cR, 64, .inr (.inr (.inr (.inr ((rvA rv)))))))]) (w1 := [(h0, .inr (0, [.ref hd, .ref hb1, v_fetched, v_compared, .ref hmk, .ref hwr, .ref hp, .int i_madeDocuments, .int i_fetchedSteps])), (hp, .inr (4, [.int 1, .int (bI go.isSome), .int wl])), (hb1, .inr (1, [.ref hy, .int (nI 0)])), (hy, .inl (cB, 256, .inl (((fu)))))]) hP hD [0, 1, 8, 9] [2, 3, 4, 5, 6, 7, 10, 11, 12, 13, 14] rfl rfl (by decide) (by decide) hk1 hFc hP1 hD1
        generalize H1 = H at hP hS hce ⊢
        replace hP : va_P (dC, dI) vwCl (([(hd, .inl (cD, 8, .inr (.inr (.inr (.inr ((dsA ds))))))), (hmk, .inr (2, [.ref hba2_6, .ref ra_4, vp2_12, .int a2_13])), (hba2_6, .inr (1, [.ref hby2_7, .int (nI kb2_10)])), (hby2_7, .inl (cB, 256, .inl (fb2_11))), (hwr, .inr (3, [.ref hrw, .int (nI q2_17)])), (hrw, .inl (cB, 512, .inl (g2_18))), (ra_4, .inr (1, [.ref hty2_5, .int (nI k2_8)])), (hty2_5, .inl (cB, 256, .inl ((f2_9)))), (ra_16, .inl (cB, n_19, .inl (f2_21))), (hdo, .inr (5, [.ref hra, .int (nI df), .int (nI dn)])), (hra, .inl (cR, 64, .inr (.inr (.inr (.inr ((rvA rv))))))), (h0, .inr (0, [.ref hd, .ref hb1, v_fetched, v_compared, .ref hmk, .ref hwr, .ref hp, .int i_madeDocuments, .int i_fetchedSteps])), (hp, .inr (4, [.int 1, .int (bI go.isSome), .int wl])), (hb1, .inr (1, [.ref hy, .int (nI 0)])), (hy, .inl (cB, 256, .inl (((fu)))))] : va_W) ++ pl) H := hP
        replace hD : va_D A (([(hd, .inl (cD, 8, .inr (.inr (.inr (.inr ((dsA ds))))))), (hmk, .inr (2, [.ref hba2_6, .ref ra_4, vp2_12, .int a2_13])), (hba2_6, .inr (1, [.ref hby2_7, .int (nI kb2_10)])), (hby2_7, .inl (cB, 256, .inl (fb2_11))), (hwr, .inr (3, [.ref hrw, .int (nI q2_17)])), (hrw, .inl (cB, 512, .inl (g2_18))), (ra_4, .inr (1, [.ref hty2_5, .int (nI k2_8)])), (hty2_5, .inl (cB, 256, .inl ((f2_9)))), (ra_16, .inl (cB, n_19, .inl (f2_21))), (hdo, .inr (5, [.ref hra, .int (nI df), .int (nI dn)])), (hra, .inl (cR, 64, .inr (.inr (.inr (.inr ((rvA rv))))))), (h0, .inr (0, [.ref hd, .ref hb1, v_fetched, v_compared, .ref hmk, .ref hwr, .ref hp, .int i_madeDocuments, .int i_fetchedSteps])), (hp, .inr (4, [.int 1, .int (bI go.isSome), .int wl])), (hb1, .inr (1, [.ref hy, .int (nI 0)])), (hy, .inl (cB, 256, .inl (((fu)))))] : va_W) ++ pl) := hD
        have hP9 := hP.part (cx := [(h0, .inr (0, [.ref hd, .ref hb1, v_fetched, v_compared, .ref hmk, .ref hwr, .ref hp, .int i_madeDocuments, .int i_fetchedSteps])), (hp, .inr (4, [.int 1, .int (bI go.isSome), .int wl])), (hd, .inl (cD, 8, .inr (.inr (.inr (.inr ((dsA ds))))))), (hmk, .inr (2, [.ref hba2_6, .ref ra_4, vp2_12, .int a2_13])), (ra_4, .inr (1, [.ref hty2_5, .int (nI k2_8)])), (hty2_5, .inl (cB, 256, .inl (f2_9))), (hba2_6, .inr (1, [.ref hby2_7, .int (nI kb2_10)])), (hby2_7, .inl (cB, 256, .inl (fb2_11))), (hwr, .inr (3, [.ref hrw, .int (nI q2_17)])), (hrw, .inl (cB, 512, .inl (g2_18))), (hb1, .inr (1, [.ref hy, .int (nI 0)])), (hy, .inl (cB, 256, .inl (fu))), (hdo, .inr (5, [.ref hra, .int (nI df), .int (nI dn)])), (hra, .inl (cR, 64, .inr (.inr (.inr (.inr ((rvA rv)))))))]) [11, 12, 0, 1, 6, 7, 2, 3, 4, 5, 13, 14, 9, 10] rfl
        have hD9 := hD.part (cx := [(h0, .inr (0, [.ref hd, .ref hb1, v_fetched, v_compared, .ref hmk, .ref hwr, .ref hp, .int i_madeDocuments, .int i_fetchedSteps])), (hp, .inr (4, [.int 1, .int (bI go.isSome), .int wl])), (hd, .inl (cD, 8, .inr (.inr (.inr (.inr ((dsA ds))))))), (hmk, .inr (2, [.ref hba2_6, .ref ra_4, vp2_12, .int a2_13])), (ra_4, .inr (1, [.ref hty2_5, .int (nI k2_8)])), (hty2_5, .inl (cB, 256, .inl (f2_9))), (hba2_6, .inr (1, [.ref hby2_7, .int (nI kb2_10)])), (hby2_7, .inl (cB, 256, .inl (fb2_11))), (hwr, .inr (3, [.ref hrw, .int (nI q2_17)])), (hrw, .inl (cB, 512, .inl (g2_18))), (hb1, .inr (1, [.ref hy, .int (nI 0)])), (hy, .inl (cB, 256, .inl (fu))), (hdo, .inr (5, [.ref hra, .int (nI df), .int (nI dn)])), (hra, .inl (cR, 64, .inr (.inr (.inr (.inr ((rvA rv)))))))]) [11, 12, 0, 1, 6, 7, 2, 3, 4, 5, 13, 14, 9, 10] (by decide) rfl
        have hK9 := hK.sub (tys' := [(cD, .object R_D), (cR, .object R_V), (cB, .byte)]) [0, 1, 2] rfl
        exact vx_out (fun x hx => (htab x hx).elim) hlocks hce hcv hcl (fun t ht hvm => ⟨(), trivial, ⟨rfl, ra_4, hty2_5, hba2_6, hby2_7, k2_8, f2_9, kb2_10, fb2_11, vp2_12, a2_13, B2_14, q2_17, g2_18, ⟨hu_15_0, hu_15_1⟩, by rw [ht]; exact hP9, va_K.moved hvm hK9, hD9⟩, hS.F ht⟩) hS.2.2 (by decide +kernel) (by decide +kernel)
end
section
theorem look_d {x : Int32} (h0 : ¬ x = 0) (h1 : ¬ x = 1) : Op.lookupswitch.offset (#[((0 : Int), (25 : Int)), (1, 30)]).toList 35 x.toInt = 35 := by
  have a0 : ¬ x.toInt = 0 := fun z => h0 (Int32.toInt_inj.mp (z.trans (by decide)))
  have a1 : ¬ x.toInt = 1 := fun z => h1 (Int32.toInt_inj.mp (z.trans (by decide)))
  simp [Op.lookupswitch.offset, Ne.symm a0, Ne.symm a1, a0, a1]
theorem tab_d {x : Int32} (h0 : ¬ x = 0) (h1 : ¬ x = 1) (h2 : ¬ x = 2) : x.toInt < 0 ∨ 2 < x.toInt := by
  have a0 : ¬ x.toInt = 0 := fun z => h0 (Int32.toInt_inj.mp (z.trans (by decide)))
  have a1 : ¬ x.toInt = 1 := fun z => h1 (Int32.toInt_inj.mp (z.trans (by decide)))
  have a2 : ¬ x.toInt = 2 := fun z => h2 (Int32.toInt_inj.mp (z.trans (by decide)))
  omega
end
section
set_option maxHeartbeats 4000000 in
set_option maxRecDepth 100000 in
theorem g_about_0 (l : Launch) (dC : Nat → ClassId) (dI : Nat → Nat → Nat) (h0 : Nat) (v_buffer : Value) (v_fetched : Value) (v_compared : Value) (v_maker : Value) (v_writer : Value) (i_madeDocuments : Int32) (i_fetchedSteps : Int32) (hp : Nat) (p_i_going : Int32) (p_i_writesLeft : Int32) (hd : Nat) (cD : ClassId) (fD : Nat → Option Nat) (hdo : Nat) (hra : Nat) (cR : ClassId) (df : Nat) (dn : Nat) (fr : Nat → Option Nat) (a1 : Int32) (hdS : atN 8 fD a1 = some hdo) (hdn : dn ≤ 64) : Met l y_K_about k_K_about ({ frames := 1, cells := 0, slots := 0, locals := 21 } : Room) (va_Pc [.ref h0, .int a1, .int 0] (pc_R (dC, dI) [(h0, .inr (0, [.ref hd, v_buffer, v_fetched, v_compared, v_maker, v_writer, .ref hp, .int i_madeDocuments, .int i_fetchedSteps])), (hp, .inr (4, [.int 0, .int p_i_going, .int p_i_writesLeft])), (hd, .inl (cD, 8, .inr (.inr (.inr (.inr (fD)))))), (hdo, .inr (5, [.ref hra, .int (nI df), .int (nI dn)])), (hra, .inl (cR, 64, .inr (.inr (.inr (.inr (fr))))))] [(cD, .object R_D), (cR, .object R_V)])) (vp_Si (fun r => r = nI df)) 0 0 (fun _ => False) := by
  refine Met.ofW (cc := prog_1_method_11_code) (maxL := 4) (ret := (some .int)) (by decide) rfl ?_
  intro p e s m args below meth c s₁ B hml hv
  obtain ⟨rfl, hP, hK, hN⟩ := hv
  have hx := B.exec
  have hb := B.bytes
  have hr := B.returns
  have hts := atoms_spec (ws := k_K_about) B.pre
  have hw0 : ∀ w ∈ w0, w.before _ s = true := fun w h => hts w (List.mem_cons_of_mem _ h)
  have hown : s.vm.findClass R_K = some m.cls := findClass_of_methodNamed B.named
  have hlocks := B.notSynchronized
  have hP : va_P (dC, dI) vwCl [(h0, .inr (0, [.ref hd, v_buffer, v_fetched, v_compared, v_maker, v_writer, .ref hp, .int i_madeDocuments, .int i_fetchedSteps])), (hp, .inr (4, [.int 0, .int p_i_going, .int p_i_writesLeft])), (hd, .inl (cD, 8, .inr (.inr (.inr (.inr (fD)))))), (hdo, .inr (5, [.ref hra, .int (nI df), .int (nI dn)])), (hra, .inl (cR, 64, .inr (.inr (.inr (.inr (fr))))))] s.heap := hP
  have hl := lv_entry ([.ref h0, .int a1, .int 0]) (n := 4) (Nat.le_of_ble_eq_true rfl)
  rw [lg_entry_eq]
  generalize (lg_sl ([.ref h0, .int a1, .int 0]) ++ List.replicate (4 - (lg_sl ([.ref h0, .int a1, .int 0])).length) Slot.unset).toArray = ls at hl ⊢
  have hl : lv_has ls 4 [(0, .ref h0), (1, .int a1), (2, .int 0)] := hl
  refine lv_aload_n hx hb d_K_about_0 rfl (lv_at hl 0 rfl) ?_
  have hPc := hP.sub (ws' := [(h0, .inr (0, [.ref hd, v_buffer, v_fetched, v_compared, v_maker, v_writer, .ref hp, .int i_madeDocuments, .int i_fetchedSteps])), (hp, .inr (4, [.int 0, .int p_i_going, .int p_i_writesLeft]))]) [0, 1] rfl
  have hKc := hK.sub (tys' := []) [] rfl
  refine ps_v (va_runV (As := []) (rest := []) ⟨hx, hb, hml, hown, hw0⟩ (g_needPower l dC dI h0 (.ref hd) v_buffer v_fetched v_compared v_maker v_writer i_madeDocuments i_fetchedSteps hp p_i_going p_i_writesLeft) (cwV 0 hw0 (gd_Vm wm_322 wm_323 wm_324 wm_226 wm_325) rfl rfl rfl (by decide +kernel) ⟨by decide +kernel, by decide +kernel⟩) (prV_R hPc hKc hN (va_recv hKc hPc (ci := 0) (q0 := 0) rfl rfl)) rfl rfl hl.1 rfl (lv_room (Nat.le_of_ble_eq_true rfl)) d_K_about_1 ⟨by decide +kernel, by decide +kernel⟩) ?_
  refine lv_aload_n hx hb d_K_about_4 rfl (lv_at hl 0 rfl) ?_
  refine lv_iload_n hx hb d_K_about_5 rfl (lv_at hl 1 rfl) ?_
  have hPc := hP.sub (ws' := [(h0, .inr (0, [.ref hd, v_buffer, v_fetched, v_compared, v_maker, v_writer, .ref hp, .int i_madeDocuments, .int i_fetchedSteps])), (hd, .inl (cD, 8, .inr (.inr (.inr (.inr ((fD)))))))]) [0, 2] rfl
  have hKc := hK.sub (tys' := [(cD, .object R_D)]) [0] rfl
  refine ps_q (va_runV (As := [.int a1]) (rest := []) ⟨hx, hb, hml, hown, hw0⟩ (g_docAt_S l dC dI h0 v_buffer v_fetched v_compared v_maker v_writer (.ref hp) i_madeDocuments i_fetchedSteps hd cD (fD) a1 hdo (by first | assumption | decide | omega)) (cwV 1 hw0 (gd_Vm wm_317 wm_318 wm_319 wm_226 wm_320) rfl rfl rfl (by decide +kernel) ⟨by decide +kernel, by decide +kernel⟩) (prV_R hPc hKc hN (va_recv hKc hPc (ci := 0) (q0 := 0) rfl rfl)) rfl rfl hl.1 rfl (lv_room (Nat.le_of_ble_eq_true rfl)) d_K_about_6 ⟨by decide +kernel, by decide +kernel⟩) (fun r_1 hr_1 => ?_)
  obtain rfl : r_1 = some hdo := hr_1
  refine W.eq (g2 := F0 m 9 ls [.ref hdo]) rfl ?_
  refine lv_astore_n (lv' := [(3, .ref hdo), (0, .ref h0), (1, .int a1), (2, .int 0)]) hx hb d_K_about_9 rfl hl (by decide) rfl (fun ls hl => ?_)
  refine lv_aload_n hx hb d_K_about_10 rfl (lv_at hl 0 rfl) ?_
  refine lv_ifnonnull (tgt := 22) hx hb d_K_about_11 (by decide) ?_
  refine lv_iload_n hx hb d_K_about_22 rfl (lv_at hl 3 rfl) ?_
  refine lv_lookup (off := 25) (tgt := 48) hx hb d_K_about_23 (by decide +kernel) (by decide +kernel) (by decide) ?_
  refine lv_aload_n hx hb d_K_about_48 rfl (lv_at hl 0 rfl) ?_
  refine va_getN (D := (dC, dI)) (ci := 5) (v := .int (nI df)) (C := R_D) (T := F_D) (N := 3) hx hb hw0 in_D hown hK hP 3 rfl rfl 1 (by decide) (va_Nw.use rfl (hN.1 (.fieldLinkNest R_K 143 "TextKeeper$Document" "first" "I" "TextKeeper") (List.mem_of_getElem? (i := 12) rfl))) (fun _ h9 => h9) rfl d_K_about_49 ?_
  exact W.iret (v := (nI df)) hx hb hr (fun t ht hW => ⟨(nI df), rfl, rfl, ht⟩) (fun q h => by cases h) d_K_about_52
set_option maxHeartbeats 4000000 in
set_option maxRecDepth 100000 in
theorem g_about_1 (l : Launch) (dC : Nat → ClassId) (dI : Nat → Nat → Nat) (h0 : Nat) (v_buffer : Value) (v_fetched : Value) (v_compared : Value) (v_maker : Value) (v_writer : Value) (i_madeDocuments : Int32) (i_fetchedSteps : Int32) (hp : Nat) (p_i_going : Int32) (p_i_writesLeft : Int32) (hd : Nat) (cD : ClassId) (fD : Nat → Option Nat) (hdo : Nat) (hra : Nat) (cR : ClassId) (df : Nat) (dn : Nat) (fr : Nat → Option Nat) (a1 : Int32) (hdS : atN 8 fD a1 = some hdo) (hdn : dn ≤ 64) : Met l y_K_about k_K_about ({ frames := 1, cells := 0, slots := 0, locals := 21 } : Room) (va_Pc [.ref h0, .int a1, .int 1] (pc_R (dC, dI) [(h0, .inr (0, [.ref hd, v_buffer, v_fetched, v_compared, v_maker, v_writer, .ref hp, .int i_madeDocuments, .int i_fetchedSteps])), (hp, .inr (4, [.int 0, .int p_i_going, .int p_i_writesLeft])), (hd, .inl (cD, 8, .inr (.inr (.inr (.inr (fD)))))), (hdo, .inr (5, [.ref hra, .int (nI df), .int (nI dn)])), (hra, .inl (cR, 64, .inr (.inr (.inr (.inr (fr))))))] [(cD, .object R_D), (cR, .object R_V)])) (vp_Si (fun r => r = nwI dn)) 0 0 (fun _ => False) := by
  refine Met.ofW (cc := prog_1_method_11_code) (maxL := 4) (ret := (some .int)) (by decide) rfl ?_
  intro p e s m args below meth c s₁ B hml hv
  obtain ⟨rfl, hP, hK, hN⟩ := hv
  have hx := B.exec
  have hb := B.bytes
  have hr := B.returns
  have hts := atoms_spec (ws := k_K_about) B.pre
  have hw0 : ∀ w ∈ w0, w.before _ s = true := fun w h => hts w (List.mem_cons_of_mem _ h)
  have hown : s.vm.findClass R_K = some m.cls := findClass_of_methodNamed B.named
  have hlocks := B.notSynchronized
  have hP : va_P (dC, dI) vwCl [(h0, .inr (0, [.ref hd, v_buffer, v_fetched, v_compared, v_maker, v_writer, .ref hp, .int i_madeDocuments, .int i_fetchedSteps])), (hp, .inr (4, [.int 0, .int p_i_going, .int p_i_writesLeft])), (hd, .inl (cD, 8, .inr (.inr (.inr (.inr (fD)))))), (hdo, .inr (5, [.ref hra, .int (nI df), .int (nI dn)])), (hra, .inl (cR, 64, .inr (.inr (.inr (.inr (fr))))))] s.heap := hP
  have hl := lv_entry ([.ref h0, .int a1, .int 1]) (n := 4) (Nat.le_of_ble_eq_true rfl)
  rw [lg_entry_eq]
  generalize (lg_sl ([.ref h0, .int a1, .int 1]) ++ List.replicate (4 - (lg_sl ([.ref h0, .int a1, .int 1])).length) Slot.unset).toArray = ls at hl ⊢
  have hl : lv_has ls 4 [(0, .ref h0), (1, .int a1), (2, .int 1)] := hl
  refine lv_aload_n hx hb d_K_about_0 rfl (lv_at hl 0 rfl) ?_
  have hPc := hP.sub (ws' := [(h0, .inr (0, [.ref hd, v_buffer, v_fetched, v_compared, v_maker, v_writer, .ref hp, .int i_madeDocuments, .int i_fetchedSteps])), (hp, .inr (4, [.int 0, .int p_i_going, .int p_i_writesLeft]))]) [0, 1] rfl
  have hKc := hK.sub (tys' := []) [] rfl
  refine ps_v (va_runV (As := []) (rest := []) ⟨hx, hb, hml, hown, hw0⟩ (g_needPower l dC dI h0 (.ref hd) v_buffer v_fetched v_compared v_maker v_writer i_madeDocuments i_fetchedSteps hp p_i_going p_i_writesLeft) (cwV 0 hw0 (gd_Vm wm_322 wm_323 wm_324 wm_226 wm_325) rfl rfl rfl (by decide +kernel) ⟨by decide +kernel, by decide +kernel⟩) (prV_R hPc hKc hN (va_recv hKc hPc (ci := 0) (q0 := 0) rfl rfl)) rfl rfl hl.1 rfl (lv_room (Nat.le_of_ble_eq_true rfl)) d_K_about_1 ⟨by decide +kernel, by decide +kernel⟩) ?_
  refine lv_aload_n hx hb d_K_about_4 rfl (lv_at hl 0 rfl) ?_
  refine lv_iload_n hx hb d_K_about_5 rfl (lv_at hl 1 rfl) ?_
  have hPc := hP.sub (ws' := [(h0, .inr (0, [.ref hd, v_buffer, v_fetched, v_compared, v_maker, v_writer, .ref hp, .int i_madeDocuments, .int i_fetchedSteps])), (hd, .inl (cD, 8, .inr (.inr (.inr (.inr ((fD)))))))]) [0, 2] rfl
  have hKc := hK.sub (tys' := [(cD, .object R_D)]) [0] rfl
  refine ps_q (va_runV (As := [.int a1]) (rest := []) ⟨hx, hb, hml, hown, hw0⟩ (g_docAt_S l dC dI h0 v_buffer v_fetched v_compared v_maker v_writer (.ref hp) i_madeDocuments i_fetchedSteps hd cD (fD) a1 hdo (by first | assumption | decide | omega)) (cwV 1 hw0 (gd_Vm wm_317 wm_318 wm_319 wm_226 wm_320) rfl rfl rfl (by decide +kernel) ⟨by decide +kernel, by decide +kernel⟩) (prV_R hPc hKc hN (va_recv hKc hPc (ci := 0) (q0 := 0) rfl rfl)) rfl rfl hl.1 rfl (lv_room (Nat.le_of_ble_eq_true rfl)) d_K_about_6 ⟨by decide +kernel, by decide +kernel⟩) (fun r_1 hr_1 => ?_)
  obtain rfl : r_1 = some hdo := hr_1
  refine W.eq (g2 := F0 m 9 ls [.ref hdo]) rfl ?_
  refine lv_astore_n (lv' := [(3, .ref hdo), (0, .ref h0), (1, .int a1), (2, .int 1)]) hx hb d_K_about_9 rfl hl (by decide) rfl (fun ls hl => ?_)
  refine lv_aload_n hx hb d_K_about_10 rfl (lv_at hl 0 rfl) ?_
  refine lv_ifnonnull (tgt := 22) hx hb d_K_about_11 (by decide) ?_
  refine lv_iload_n hx hb d_K_about_22 rfl (lv_at hl 3 rfl) ?_
  refine lv_lookup (off := 30) (tgt := 53) hx hb d_K_about_23 (by decide +kernel) (by decide +kernel) (by decide) ?_
  refine lv_aload_n hx hb d_K_about_53 rfl (lv_at hl 0 rfl) ?_
  have hPc := hP.sub (ws' := [(hdo, .inr (5, [.ref hra, .int (nI df), .int (nI dn)])), (hra, .inl (cR, 64, .inr (.inr (.inr (.inr ((fr)))))))]) [3, 4] rfl
  have hKc := hK.sub (tys' := [(cR, .object R_V)]) [1] rfl
  refine ps_i (va_runV (As := []) (rest := []) ⟨hx, hb, hml, hown, hw0⟩ (g_newest l dC dI hdo hra cR df dn (fr) (by first | assumption | decide | omega)) (cwV 0 hw0 (gd_Vm wm_404 wm_405 wm_406 wm_233 wm_407) rfl rfl rfl (by decide +kernel) ⟨by decide +kernel, by decide +kernel⟩) (prV_R hPc hKc hN (va_recv hKc hPc (ci := 5) (q0 := 0) rfl rfl)) rfl rfl hl.1 rfl (lv_room (Nat.le_of_ble_eq_true rfl)) d_K_about_54 ⟨by decide +kernel, by decide +kernel⟩) (fun r_2 hr_2 => ?_)
  obtain rfl : r_2 = (nwI dn) := hr_2
  exact W.iret (v := (nwI dn)) hx hb hr (fun t ht hW => ⟨(nwI dn), rfl, rfl, ht⟩) (fun q h => by cases h) d_K_about_57
set_option maxHeartbeats 4000000 in
set_option maxRecDepth 100000 in
theorem x_about_N (l : Launch) (hl9 : l.stackTraces = false) (dC : Nat → ClassId) (dI : Nat → Nat → Nat) (sz : Nat) (h0 : Nat) (v_buffer : Value) (v_fetched : Value) (v_compared : Value) (v_maker : Value) (v_writer : Value) (i_madeDocuments : Int32) (i_fetchedSteps : Int32) (hp : Nat) (p_i_going : Int32) (p_i_writesLeft : Int32) (hd : Nat) (cD : ClassId) (fD : Nat → Option Nat) (a1 : Int32) (a2 : Int32) (hdN : atN 8 fD a1 = none) : vx_Met l y_K_about k_K_about ({ frames := 6, cells := 1, slots := 6, locals := 85 } : Room) (va_Pc [.ref h0, .int a1, .int a2] (fun U => pc_E (dC, dI) [(h0, .inr (0, [.ref hd, v_buffer, v_fetched, v_compared, v_maker, v_writer, .ref hp, .int i_madeDocuments, .int i_fetchedSteps])), (hp, .inr (4, [.int 0, .int p_i_going, .int p_i_writesLeft])), (hd, .inl (cD, 8, .inr (.inr (.inr (.inr (fD))))))] [(cD, .object R_D)] sz U ∧ tw_ok U)) (va_Qi (fun (_ : Int32) (_ : Unit) => False) (fun _ _ => True) (va_A [(h0, .inr (0, [.ref hd, v_buffer, v_fetched, v_compared, v_maker, v_writer, .ref hp, .int i_madeDocuments, .int i_fetchedSteps])), (hp, .inr (4, [.int 0, .int p_i_going, .int p_i_writesLeft])), (hd, .inl (cD, 8, .inr (.inr (.inr (.inr (fD))))))] sz)) (vx_X (fun _ : Unit => True) (fun E _ t => E = "java/util/NoSuchElementException" ∧ at_E (dC, dI) (va_A [(h0, .inr (0, [.ref hd, v_buffer, v_fetched, v_compared, v_maker, v_writer, .ref hp, .int i_madeDocuments, .int i_fetchedSteps])), (hp, .inr (4, [.int 0, .int p_i_going, .int p_i_writesLeft])), (hd, .inl (cD, 8, .inr (.inr (.inr (.inr (fD))))))] sz) [(h0, .inr (0, [.ref hd, v_buffer, v_fetched, v_compared, v_maker, v_writer, .ref hp, .int i_madeDocuments, .int i_fetchedSteps])), (hp, .inr (4, [.int 0, .int p_i_going, .int p_i_writesLeft])), (hd, .inl (cD, 8, .inr (.inr (.inr (.inr (fD))))))] [(cD, .object R_D)] t) (va_A [(h0, .inr (0, [.ref hd, v_buffer, v_fetched, v_compared, v_maker, v_writer, .ref hp, .int i_madeDocuments, .int i_fetchedSteps])), (hp, .inr (4, [.int 0, .int p_i_going, .int p_i_writesLeft])), (hd, .inl (cD, 8, .inr (.inr (.inr (.inr (fD))))))] sz)) 1 6 (va_A [(h0, .inr (0, [.ref hd, v_buffer, v_fetched, v_compared, v_maker, v_writer, .ref hp, .int i_madeDocuments, .int i_fetchedSteps])), (hp, .inr (4, [.int 0, .int p_i_going, .int p_i_writesLeft])), (hd, .inl (cD, 8, .inr (.inr (.inr (.inr (fD))))))] sz) := by
  refine vx_ofW (cc := prog_1_method_11_code) (maxL := 4) (ret := (some .int)) (by decide) rfl ?_
  intro p e s m args below meth c s₁ B hml htab hv
  obtain ⟨rfl, ⟨hsz, hP, hK, hD0, hN⟩, hTw⟩ := hv
  have hx := B.exec
  have hb := B.bytes
  have hr := B.returns
  have hts := atoms_spec (ws := k_K_about) B.pre
  have hw0 : ∀ w ∈ w0, w.before _ s = true := fun w h => hts w (List.mem_cons_of_mem _ h)
  have hown : s.vm.findClass R_K = some m.cls := findClass_of_methodNamed B.named
  have hlocks := B.notSynchronized
  subst hsz
  have hD := hD0.self (sz := s.heap.size)
  have hTwA := tw_A hTw hP
  generalize hAe : va_A [(h0, .inr (0, [.ref hd, v_buffer, v_fetched, v_compared, v_maker, v_writer, .ref hp, .int i_madeDocuments, .int i_fetchedSteps])), (hp, .inr (4, [.int 0, .int p_i_going, .int p_i_writesLeft])), (hd, .inl (cD, 8, .inr (.inr (.inr (.inr (fD))))))] s.heap.size = A at hD hTwA ⊢
  have hA : ∀ q : Nat, s.heap.size ≤ q → A q := fun q h => by rw [← hAe]; exact Or.inr h
  have hS : va_S A s.heap s.heap [] := va_S.rf
  have hP : va_P (dC, dI) vwCl [(h0, .inr (0, [.ref hd, v_buffer, v_fetched, v_compared, v_maker, v_writer, .ref hp, .int i_madeDocuments, .int i_fetchedSteps])), (hp, .inr (4, [.int 0, .int p_i_going, .int p_i_writesLeft])), (hd, .inl (cD, 8, .inr (.inr (.inr (.inr (fD))))))] s.heap := hP
  have hl := lv_entry ([.ref h0, .int a1, .int a2]) (n := 4) (Nat.le_of_ble_eq_true rfl)
  rw [lg_entry_eq]
  generalize (lg_sl ([.ref h0, .int a1, .int a2]) ++ List.replicate (4 - (lg_sl ([.ref h0, .int a1, .int a2])).length) Slot.unset).toArray = ls at hl ⊢
  have hl : lv_has ls 4 [(0, .ref h0), (1, .int a1), (2, .int a2)] := hl
  refine lv_aload_n hx hb d_K_about_0 rfl (lv_at hl 0 rfl) ?_
  have hPc := hP.sub (ws' := [(h0, .inr (0, [.ref hd, v_buffer, v_fetched, v_compared, v_maker, v_writer, .ref hp, .int i_madeDocuments, .int i_fetchedSteps])), (hp, .inr (4, [.int 0, .int p_i_going, .int p_i_writesLeft]))]) [0, 1] rfl
  have hKc := hK.sub (tys' := []) [] rfl
  refine ps_v (va_runV (As := []) (rest := []) ⟨hx, hb, hml, hown, hw0⟩ (g_needPower l dC dI h0 (.ref hd) v_buffer v_fetched v_compared v_maker v_writer i_madeDocuments i_fetchedSteps hp p_i_going p_i_writesLeft) (cwV 0 hw0 (gd_Vm wm_322 wm_323 wm_324 wm_226 wm_325) rfl rfl rfl (by decide +kernel) ⟨by decide +kernel, by decide +kernel⟩) (prV_R hPc hKc hN (va_recv hKc hPc (ci := 0) (q0 := 0) rfl rfl)) rfl rfl hl.1 rfl (lv_room (Nat.le_of_ble_eq_true rfl)) d_K_about_1 ⟨by decide +kernel, by decide +kernel⟩) ?_
  refine lv_aload_n hx hb d_K_about_4 rfl (lv_at hl 0 rfl) ?_
  refine lv_iload_n hx hb d_K_about_5 rfl (lv_at hl 1 rfl) ?_
  have hPc := hP.sub (ws' := [(h0, .inr (0, [.ref hd, v_buffer, v_fetched, v_compared, v_maker, v_writer, .ref hp, .int i_madeDocuments, .int i_fetchedSteps])), (hd, .inl (cD, 8, .inr (.inr (.inr (.inr ((fD)))))))]) [0, 2] rfl
  have hKc := hK.sub (tys' := [(cD, .object R_D)]) [0] rfl
  refine ps_q (va_runV (As := [.int a1]) (rest := []) ⟨hx, hb, hml, hown, hw0⟩ (g_docAt_N l dC dI h0 v_buffer v_fetched v_compared v_maker v_writer (.ref hp) i_madeDocuments i_fetchedSteps hd cD (fD) a1 (by first | assumption | decide | omega)) (cwV 1 hw0 (gd_Vm wm_317 wm_318 wm_319 wm_226 wm_320) rfl rfl rfl (by decide +kernel) ⟨by decide +kernel, by decide +kernel⟩) (prV_R hPc hKc hN (va_recv hKc hPc (ci := 0) (q0 := 0) rfl rfl)) rfl rfl hl.1 rfl (lv_room (Nat.le_of_ble_eq_true rfl)) d_K_about_6 ⟨by decide +kernel, by decide +kernel⟩) (fun r_1 hr_1 => ?_)
  obtain rfl : r_1 = none := hr_1
  refine W.eq (g2 := F0 m 9 ls [.null]) rfl ?_
  refine lv_astore_nN (lv' := [(3, .null), (0, .ref h0), (1, .int a1), (2, .int a2)]) hx hb d_K_about_9 rfl hl (by decide) rfl (fun ls hl => ?_)
  refine lv_aload_nN hx hb d_K_about_10 rfl (lv_at hl 0 rfl) ?_
  refine lv_ifnonnullN hx hb d_K_about_11 ?_
  have hP9 := hP.sub (ws' := [(h0, .inr (0, [.ref hd, v_buffer, v_fetched, v_compared, v_maker, v_writer, .ref hp, .int i_madeDocuments, .int i_fetchedSteps])), (hp, .inr (4, [.int 0, .int p_i_going, .int p_i_writesLeft])), (hd, .inl (cD, 8, .inr (.inr (.inr (.inr (fD))))))]) [0, 1, 2] rfl
  have hD9 := hD.sub (ws' := [(h0, .inr (0, [.ref hd, v_buffer, v_fetched, v_compared, v_maker, v_writer, .ref hp, .int i_madeDocuments, .int i_fetchedSteps])), (hp, .inr (4, [.int 0, .int p_i_going, .int p_i_writesLeft])), (hd, .inl (cD, 8, .inr (.inr (.inr (.inr (fD))))))]) [0, 1, 2] (by decide) rfl
  have hK9 := hK.sub (tys' := [(cD, .object R_D)]) [0] rfl
  have tw_at : ∀ w ∈ vx_at0 "TextKeeper" 142 "java/util/NoSuchElementException" ["java/lang/RuntimeException", "java/lang/Exception"], w.before _ s = true := vx_hat (fun w h => hw0 w (twN_1 w h)) twN_2 (fun w h => va_Nw.use (nw0_tab w h) (hN.1 w h))
  exact vx_throw0 (names := ["java/lang/RuntimeException", "java/lang/Exception"]) (ik := 140) (ic := 142) (A := A) hx hb hl9 hown (by decide +kernel) (by decide +kernel) (hw0 (.classLink "TextKeeper" 140 "java/util/NoSuchElementException") wm_437) (hw0 (.initialized "java/util/NoSuchElementException") wm_438) tw_at twN_g hTwA.1 hTwA.2 hS (by rw [hml]; exact hl.1) d_K_about_14 d_K_about_17 d_K_about_18 d_K_about_21 (fun x hx => (htab x hx).elim) (by decide +kernel) (by decide +kernel) (by decide +kernel) (by decide +kernel) hlocks (fun t hvm hz hk => ⟨(), trivial, ⟨rfl, hP9.kept (fun k q hq => hk _ ((hP9 k q hq).lt)), va_K.moved hvm hK9, hD9⟩, Nat.le_trans hS.1 hz, fun q h hn => (hk q (Nat.lt_of_lt_of_le h hS.1)).trans (hS.2.1 q h hn)⟩) hS.2.2 (by decide +kernel) (by decide +kernel)
set_option maxHeartbeats 4000000 in
set_option maxRecDepth 100000 in
theorem x_about_A (l : Launch) (hl9 : l.stackTraces = false) (dC : Nat → ClassId) (dI : Nat → Nat → Nat) (sz : Nat) (h0 : Nat) (v_buffer : Value) (v_fetched : Value) (v_compared : Value) (v_maker : Value) (v_writer : Value) (i_madeDocuments : Int32) (i_fetchedSteps : Int32) (hp : Nat) (p_i_going : Int32) (p_i_writesLeft : Int32) (hd : Nat) (cD : ClassId) (fD : Nat → Option Nat) (hdo : Nat) (hra : Nat) (cR : ClassId) (df : Nat) (dn : Nat) (fr : Nat → Option Nat) (a1 : Int32) (a2 : Int32) (hdS : atN 8 fD a1 = some hdo) (hdn : dn ≤ 64) (hw0x : ¬ a2 = 0) (hw1x : ¬ a2 = 1) : vx_Met l y_K_about k_K_about ({ frames := 6, cells := 1, slots := 6, locals := 85 } : Room) (va_Pc [.ref h0, .int a1, .int a2] (fun U => pc_E (dC, dI) [(h0, .inr (0, [.ref hd, v_buffer, v_fetched, v_compared, v_maker, v_writer, .ref hp, .int i_madeDocuments, .int i_fetchedSteps])), (hp, .inr (4, [.int 0, .int p_i_going, .int p_i_writesLeft])), (hd, .inl (cD, 8, .inr (.inr (.inr (.inr (fD)))))), (hdo, .inr (5, [.ref hra, .int (nI df), .int (nI dn)])), (hra, .inl (cR, 64, .inr (.inr (.inr (.inr (fr))))))] [(cD, .object R_D), (cR, .object R_V)] sz U ∧ tw_ok U)) (va_Qi (fun (_ : Int32) (_ : Unit) => False) (fun _ _ => True) (va_A [(h0, .inr (0, [.ref hd, v_buffer, v_fetched, v_compared, v_maker, v_writer, .ref hp, .int i_madeDocuments, .int i_fetchedSteps])), (hp, .inr (4, [.int 0, .int p_i_going, .int p_i_writesLeft])), (hd, .inl (cD, 8, .inr (.inr (.inr (.inr (fD)))))), (hdo, .inr (5, [.ref hra, .int (nI df), .int (nI dn)])), (hra, .inl (cR, 64, .inr (.inr (.inr (.inr (fr))))))] sz)) (vx_X (fun _ : Unit => True) (fun E _ t => E = "java/lang/IllegalArgumentException" ∧ at_E (dC, dI) (va_A [(h0, .inr (0, [.ref hd, v_buffer, v_fetched, v_compared, v_maker, v_writer, .ref hp, .int i_madeDocuments, .int i_fetchedSteps])), (hp, .inr (4, [.int 0, .int p_i_going, .int p_i_writesLeft])), (hd, .inl (cD, 8, .inr (.inr (.inr (.inr (fD)))))), (hdo, .inr (5, [.ref hra, .int (nI df), .int (nI dn)])), (hra, .inl (cR, 64, .inr (.inr (.inr (.inr (fr))))))] sz) [(h0, .inr (0, [.ref hd, v_buffer, v_fetched, v_compared, v_maker, v_writer, .ref hp, .int i_madeDocuments, .int i_fetchedSteps])), (hp, .inr (4, [.int 0, .int p_i_going, .int p_i_writesLeft])), (hd, .inl (cD, 8, .inr (.inr (.inr (.inr (fD)))))), (hdo, .inr (5, [.ref hra, .int (nI df), .int (nI dn)])), (hra, .inl (cR, 64, .inr (.inr (.inr (.inr (fr))))))] [(cD, .object R_D), (cR, .object R_V)] t) (va_A [(h0, .inr (0, [.ref hd, v_buffer, v_fetched, v_compared, v_maker, v_writer, .ref hp, .int i_madeDocuments, .int i_fetchedSteps])), (hp, .inr (4, [.int 0, .int p_i_going, .int p_i_writesLeft])), (hd, .inl (cD, 8, .inr (.inr (.inr (.inr (fD)))))), (hdo, .inr (5, [.ref hra, .int (nI df), .int (nI dn)])), (hra, .inl (cR, 64, .inr (.inr (.inr (.inr (fr))))))] sz)) 1 6 (va_A [(h0, .inr (0, [.ref hd, v_buffer, v_fetched, v_compared, v_maker, v_writer, .ref hp, .int i_madeDocuments, .int i_fetchedSteps])), (hp, .inr (4, [.int 0, .int p_i_going, .int p_i_writesLeft])), (hd, .inl (cD, 8, .inr (.inr (.inr (.inr (fD)))))), (hdo, .inr (5, [.ref hra, .int (nI df), .int (nI dn)])), (hra, .inl (cR, 64, .inr (.inr (.inr (.inr (fr))))))] sz) := by
  refine vx_ofW (cc := prog_1_method_11_code) (maxL := 4) (ret := (some .int)) (by decide) rfl ?_
  intro p e s m args below meth c s₁ B hml htab hv
  obtain ⟨rfl, ⟨hsz, hP, hK, hD0, hN⟩, hTw⟩ := hv
  have hx := B.exec
  have hb := B.bytes
  have hr := B.returns
  have hts := atoms_spec (ws := k_K_about) B.pre
  have hw0 : ∀ w ∈ w0, w.before _ s = true := fun w h => hts w (List.mem_cons_of_mem _ h)
  have hown : s.vm.findClass R_K = some m.cls := findClass_of_methodNamed B.named
  have hlocks := B.notSynchronized
  subst hsz
  have hD := hD0.self (sz := s.heap.size)
  have hTwA := tw_A hTw hP
  generalize hAe : va_A [(h0, .inr (0, [.ref hd, v_buffer, v_fetched, v_compared, v_maker, v_writer, .ref hp, .int i_madeDocuments, .int i_fetchedSteps])), (hp, .inr (4, [.int 0, .int p_i_going, .int p_i_writesLeft])), (hd, .inl (cD, 8, .inr (.inr (.inr (.inr (fD)))))), (hdo, .inr (5, [.ref hra, .int (nI df), .int (nI dn)])), (hra, .inl (cR, 64, .inr (.inr (.inr (.inr (fr))))))] s.heap.size = A at hD hTwA ⊢
  have hA : ∀ q : Nat, s.heap.size ≤ q → A q := fun q h => by rw [← hAe]; exact Or.inr h
  have hS : va_S A s.heap s.heap [] := va_S.rf
  have hP : va_P (dC, dI) vwCl [(h0, .inr (0, [.ref hd, v_buffer, v_fetched, v_compared, v_maker, v_writer, .ref hp, .int i_madeDocuments, .int i_fetchedSteps])), (hp, .inr (4, [.int 0, .int p_i_going, .int p_i_writesLeft])), (hd, .inl (cD, 8, .inr (.inr (.inr (.inr (fD)))))), (hdo, .inr (5, [.ref hra, .int (nI df), .int (nI dn)])), (hra, .inl (cR, 64, .inr (.inr (.inr (.inr (fr))))))] s.heap := hP
  have hl := lv_entry ([.ref h0, .int a1, .int a2]) (n := 4) (Nat.le_of_ble_eq_true rfl)
  rw [lg_entry_eq]
  generalize (lg_sl ([.ref h0, .int a1, .int a2]) ++ List.replicate (4 - (lg_sl ([.ref h0, .int a1, .int a2])).length) Slot.unset).toArray = ls at hl ⊢
  have hl : lv_has ls 4 [(0, .ref h0), (1, .int a1), (2, .int a2)] := hl
  refine lv_aload_n hx hb d_K_about_0 rfl (lv_at hl 0 rfl) ?_
  have hPc := hP.sub (ws' := [(h0, .inr (0, [.ref hd, v_buffer, v_fetched, v_compared, v_maker, v_writer, .ref hp, .int i_madeDocuments, .int i_fetchedSteps])), (hp, .inr (4, [.int 0, .int p_i_going, .int p_i_writesLeft]))]) [0, 1] rfl
  have hKc := hK.sub (tys' := []) [] rfl
  refine ps_v (va_runV (As := []) (rest := []) ⟨hx, hb, hml, hown, hw0⟩ (g_needPower l dC dI h0 (.ref hd) v_buffer v_fetched v_compared v_maker v_writer i_madeDocuments i_fetchedSteps hp p_i_going p_i_writesLeft) (cwV 0 hw0 (gd_Vm wm_322 wm_323 wm_324 wm_226 wm_325) rfl rfl rfl (by decide +kernel) ⟨by decide +kernel, by decide +kernel⟩) (prV_R hPc hKc hN (va_recv hKc hPc (ci := 0) (q0 := 0) rfl rfl)) rfl rfl hl.1 rfl (lv_room (Nat.le_of_ble_eq_true rfl)) d_K_about_1 ⟨by decide +kernel, by decide +kernel⟩) ?_
  refine lv_aload_n hx hb d_K_about_4 rfl (lv_at hl 0 rfl) ?_
  refine lv_iload_n hx hb d_K_about_5 rfl (lv_at hl 1 rfl) ?_
  have hPc := hP.sub (ws' := [(h0, .inr (0, [.ref hd, v_buffer, v_fetched, v_compared, v_maker, v_writer, .ref hp, .int i_madeDocuments, .int i_fetchedSteps])), (hd, .inl (cD, 8, .inr (.inr (.inr (.inr ((fD)))))))]) [0, 2] rfl
  have hKc := hK.sub (tys' := [(cD, .object R_D)]) [0] rfl
  refine ps_q (va_runV (As := [.int a1]) (rest := []) ⟨hx, hb, hml, hown, hw0⟩ (g_docAt_S l dC dI h0 v_buffer v_fetched v_compared v_maker v_writer (.ref hp) i_madeDocuments i_fetchedSteps hd cD (fD) a1 hdo (by first | assumption | decide | omega)) (cwV 1 hw0 (gd_Vm wm_317 wm_318 wm_319 wm_226 wm_320) rfl rfl rfl (by decide +kernel) ⟨by decide +kernel, by decide +kernel⟩) (prV_R hPc hKc hN (va_recv hKc hPc (ci := 0) (q0 := 0) rfl rfl)) rfl rfl hl.1 rfl (lv_room (Nat.le_of_ble_eq_true rfl)) d_K_about_6 ⟨by decide +kernel, by decide +kernel⟩) (fun r_1 hr_1 => ?_)
  obtain rfl : r_1 = some hdo := hr_1
  refine W.eq (g2 := F0 m 9 ls [.ref hdo]) rfl ?_
  refine lv_astore_n (lv' := [(3, .ref hdo), (0, .ref h0), (1, .int a1), (2, .int a2)]) hx hb d_K_about_9 rfl hl (by decide) rfl (fun ls hl => ?_)
  refine lv_aload_n hx hb d_K_about_10 rfl (lv_at hl 0 rfl) ?_
  refine lv_ifnonnull (tgt := 22) hx hb d_K_about_11 (by decide) ?_
  refine lv_iload_n hx hb d_K_about_22 rfl (lv_at hl 3 rfl) ?_
  refine lv_lookup (off := 35) (tgt := 58) hx hb d_K_about_23 (by decide +kernel) (look_d hw0x hw1x) (by decide) ?_
  have hP9 := hP.sub (ws' := [(h0, .inr (0, [.ref hd, v_buffer, v_fetched, v_compared, v_maker, v_writer, .ref hp, .int i_madeDocuments, .int i_fetchedSteps])), (hp, .inr (4, [.int 0, .int p_i_going, .int p_i_writesLeft])), (hd, .inl (cD, 8, .inr (.inr (.inr (.inr (fD)))))), (hdo, .inr (5, [.ref hra, .int (nI df), .int (nI dn)])), (hra, .inl (cR, 64, .inr (.inr (.inr (.inr (fr))))))]) [0, 1, 2, 3, 4] rfl
  have hD9 := hD.sub (ws' := [(h0, .inr (0, [.ref hd, v_buffer, v_fetched, v_compared, v_maker, v_writer, .ref hp, .int i_madeDocuments, .int i_fetchedSteps])), (hp, .inr (4, [.int 0, .int p_i_going, .int p_i_writesLeft])), (hd, .inl (cD, 8, .inr (.inr (.inr (.inr (fD)))))), (hdo, .inr (5, [.ref hra, .int (nI df), .int (nI dn)])), (hra, .inl (cR, 64, .inr (.inr (.inr (.inr (fr))))))]) [0, 1, 2, 3, 4] (by decide) rfl
  have hK9 := hK.sub (tys' := [(cD, .object R_D), (cR, .object R_V)]) [0, 1] rfl
  have tw_at : ∀ w ∈ vx_at0 "TextKeeper" 148 "java/lang/IllegalArgumentException" ["java/lang/RuntimeException", "java/lang/Exception"], w.before _ s = true := vx_hat (fun w h => hw0 w (twA_1 w h)) twA_2 (fun w h => va_Nw.use (nw0_tab w h) (hN.1 w h))
  exact vx_throw0 (names := ["java/lang/RuntimeException", "java/lang/Exception"]) (ik := 146) (ic := 148) (A := A) hx hb hl9 hown (by decide +kernel) (by decide +kernel) (hw0 (.classLink "TextKeeper" 146 "java/lang/IllegalArgumentException") wm_439) (hw0 (.initialized "java/lang/IllegalArgumentException") wm_440) tw_at twA_g hTwA.1 hTwA.2 hS (by rw [hml]; exact hl.1) d_K_about_58 d_K_about_61 d_K_about_62 d_K_about_65 (fun x hx => (htab x hx).elim) (by decide +kernel) (by decide +kernel) (by decide +kernel) (by decide +kernel) hlocks (fun t hvm hz hk => ⟨(), trivial, ⟨rfl, hP9.kept (fun k q hq => hk _ ((hP9 k q hq).lt)), va_K.moved hvm hK9, hD9⟩, Nat.le_trans hS.1 hz, fun q h hn => (hk q (Nat.lt_of_lt_of_le h hS.1)).trans (hS.2.1 q h hn)⟩) hS.2.2 (by decide +kernel) (by decide +kernel)
end
section
set_option maxHeartbeats 4000000 in
set_option maxRecDepth 100000 in
theorem x_rev_D0 (l : Launch) (hl9 : l.stackTraces = false) (dC : Nat → ClassId) (dI : Nat → Nat → Nat) (sz : Nat) (h0 : Nat) (v_buffer : Value) (v_fetched : Value) (v_compared : Value) (v_maker : Value) (v_writer : Value) (i_madeDocuments : Int32) (i_fetchedSteps : Int32) (hp : Nat) (p_i_going : Int32) (p_i_writesLeft : Int32) (hd : Nat) (cD : ClassId) (fD : Nat → Option Nat) (a1 : Int32) (a2 : Int32) (a3 : Int32) (hdN : atN 8 fD a1 = none) : vx_Met l y_K_revision k_K_revision ({ frames := 6, cells := 1, slots := 6, locals := 85 } : Room) (va_Pc [.ref h0, .int a1, .int a2, .int a3] (fun U => pc_E (dC, dI) [(h0, .inr (0, [.ref hd, v_buffer, v_fetched, v_compared, v_maker, v_writer, .ref hp, .int i_madeDocuments, .int i_fetchedSteps])), (hp, .inr (4, [.int 0, .int p_i_going, .int p_i_writesLeft])), (hd, .inl (cD, 8, .inr (.inr (.inr (.inr (fD))))))] [(cD, .object R_D)] sz U ∧ tw_ok U)) (va_Qi (fun (_ : Int32) (_ : Unit) => False) (fun _ _ => True) (va_A [(h0, .inr (0, [.ref hd, v_buffer, v_fetched, v_compared, v_maker, v_writer, .ref hp, .int i_madeDocuments, .int i_fetchedSteps])), (hp, .inr (4, [.int 0, .int p_i_going, .int p_i_writesLeft])), (hd, .inl (cD, 8, .inr (.inr (.inr (.inr (fD))))))] sz)) (vx_X (fun _ : Unit => True) (fun E _ t => E = "java/util/NoSuchElementException" ∧ at_E (dC, dI) (va_A [(h0, .inr (0, [.ref hd, v_buffer, v_fetched, v_compared, v_maker, v_writer, .ref hp, .int i_madeDocuments, .int i_fetchedSteps])), (hp, .inr (4, [.int 0, .int p_i_going, .int p_i_writesLeft])), (hd, .inl (cD, 8, .inr (.inr (.inr (.inr (fD))))))] sz) [(h0, .inr (0, [.ref hd, v_buffer, v_fetched, v_compared, v_maker, v_writer, .ref hp, .int i_madeDocuments, .int i_fetchedSteps])), (hp, .inr (4, [.int 0, .int p_i_going, .int p_i_writesLeft])), (hd, .inl (cD, 8, .inr (.inr (.inr (.inr (fD))))))] [(cD, .object R_D)] t) (va_A [(h0, .inr (0, [.ref hd, v_buffer, v_fetched, v_compared, v_maker, v_writer, .ref hp, .int i_madeDocuments, .int i_fetchedSteps])), (hp, .inr (4, [.int 0, .int p_i_going, .int p_i_writesLeft])), (hd, .inl (cD, 8, .inr (.inr (.inr (.inr (fD))))))] sz)) 1 6 (va_A [(h0, .inr (0, [.ref hd, v_buffer, v_fetched, v_compared, v_maker, v_writer, .ref hp, .int i_madeDocuments, .int i_fetchedSteps])), (hp, .inr (4, [.int 0, .int p_i_going, .int p_i_writesLeft])), (hd, .inl (cD, 8, .inr (.inr (.inr (.inr (fD))))))] sz) := by
  refine vx_ofW (cc := prog_1_method_12_code) (maxL := 7) (ret := (some .int)) (by decide) rfl ?_
  intro p e s m args below meth c s₁ B hml htab hv
  obtain ⟨rfl, ⟨hsz, hP, hK, hD0, hN⟩, hTw⟩ := hv
  have hx := B.exec
  have hb := B.bytes
  have hr := B.returns
  have hts := atoms_spec (ws := k_K_revision) B.pre
  have hw0 : ∀ w ∈ w0, w.before _ s = true := fun w h => hts w (List.mem_cons_of_mem _ h)
  have hown : s.vm.findClass R_K = some m.cls := findClass_of_methodNamed B.named
  have hlocks := B.notSynchronized
  subst hsz
  have hD := hD0.self (sz := s.heap.size)
  have hTwA := tw_A hTw hP
  generalize hAe : va_A [(h0, .inr (0, [.ref hd, v_buffer, v_fetched, v_compared, v_maker, v_writer, .ref hp, .int i_madeDocuments, .int i_fetchedSteps])), (hp, .inr (4, [.int 0, .int p_i_going, .int p_i_writesLeft])), (hd, .inl (cD, 8, .inr (.inr (.inr (.inr (fD))))))] s.heap.size = A at hD hTwA ⊢
  have hA : ∀ q : Nat, s.heap.size ≤ q → A q := fun q h => by rw [← hAe]; exact Or.inr h
  have hS : va_S A s.heap s.heap [] := va_S.rf
  have hP : va_P (dC, dI) vwCl [(h0, .inr (0, [.ref hd, v_buffer, v_fetched, v_compared, v_maker, v_writer, .ref hp, .int i_madeDocuments, .int i_fetchedSteps])), (hp, .inr (4, [.int 0, .int p_i_going, .int p_i_writesLeft])), (hd, .inl (cD, 8, .inr (.inr (.inr (.inr (fD))))))] s.heap := hP
  have hl := lv_entry ([.ref h0, .int a1, .int a2, .int a3]) (n := 7) (Nat.le_of_ble_eq_true rfl)
  rw [lg_entry_eq]
  generalize (lg_sl ([.ref h0, .int a1, .int a2, .int a3]) ++ List.replicate (7 - (lg_sl ([.ref h0, .int a1, .int a2, .int a3])).length) Slot.unset).toArray = ls at hl ⊢
  have hl : lv_has ls 7 [(0, .ref h0), (1, .int a1), (2, .int a2), (3, .int a3)] := hl
  refine lv_aload_n hx hb d_K_revision_0 rfl (lv_at hl 0 rfl) ?_
  have hPc := hP.sub (ws' := [(h0, .inr (0, [.ref hd, v_buffer, v_fetched, v_compared, v_maker, v_writer, .ref hp, .int i_madeDocuments, .int i_fetchedSteps])), (hp, .inr (4, [.int 0, .int p_i_going, .int p_i_writesLeft]))]) [0, 1] rfl
  have hKc := hK.sub (tys' := []) [] rfl
  refine ps_v (va_runV (As := []) (rest := []) ⟨hx, hb, hml, hown, hw0⟩ (g_needPower l dC dI h0 (.ref hd) v_buffer v_fetched v_compared v_maker v_writer i_madeDocuments i_fetchedSteps hp p_i_going p_i_writesLeft) (cwV 0 hw0 (gd_Vm wm_322 wm_323 wm_324 wm_226 wm_325) rfl rfl rfl (by decide +kernel) ⟨by decide +kernel, by decide +kernel⟩) (prV_R hPc hKc hN (va_recv hKc hPc (ci := 0) (q0 := 0) rfl rfl)) rfl rfl hl.1 rfl (lv_room (Nat.le_of_ble_eq_true rfl)) d_K_revision_1 ⟨by decide +kernel, by decide +kernel⟩) ?_
  refine lv_aload_n hx hb d_K_revision_4 rfl (lv_at hl 0 rfl) ?_
  refine lv_iload_n hx hb d_K_revision_5 rfl (lv_at hl 1 rfl) ?_
  have hPc := hP.sub (ws' := [(h0, .inr (0, [.ref hd, v_buffer, v_fetched, v_compared, v_maker, v_writer, .ref hp, .int i_madeDocuments, .int i_fetchedSteps])), (hd, .inl (cD, 8, .inr (.inr (.inr (.inr ((fD)))))))]) [0, 2] rfl
  have hKc := hK.sub (tys' := [(cD, .object R_D)]) [0] rfl
  refine ps_q (va_runV (As := [.int a1]) (rest := []) ⟨hx, hb, hml, hown, hw0⟩ (g_docAt_N l dC dI h0 v_buffer v_fetched v_compared v_maker v_writer (.ref hp) i_madeDocuments i_fetchedSteps hd cD (fD) a1 (by first | assumption | decide | omega)) (cwV 1 hw0 (gd_Vm wm_317 wm_318 wm_319 wm_226 wm_320) rfl rfl rfl (by decide +kernel) ⟨by decide +kernel, by decide +kernel⟩) (prV_R hPc hKc hN (va_recv hKc hPc (ci := 0) (q0 := 0) rfl rfl)) rfl rfl hl.1 rfl (lv_room (Nat.le_of_ble_eq_true rfl)) d_K_revision_6 ⟨by decide +kernel, by decide +kernel⟩) (fun r_1 hr_1 => ?_)
  obtain rfl : r_1 = none := hr_1
  refine W.eq (g2 := F0 m 9 ls [.null]) rfl ?_
  refine lv_astoreN (lv' := [(4, .null), (0, .ref h0), (1, .int a1), (2, .int a2), (3, .int a3)]) hx hb d_K_revision_9 hl (by decide) rfl (fun ls hl => ?_)
  refine lv_aload_n hx hb d_K_revision_11 rfl (lv_at hl 1 rfl) ?_
  refine lv_iload_n hx hb d_K_revision_12 rfl (lv_at hl 2 rfl) ?_
  refine lv_iload_n hx hb d_K_revision_13 rfl (lv_at hl 3 rfl) ?_
  have hPc := hP.sub (ws' := [(h0, .inr (0, [.ref hd, v_buffer, v_fetched, v_compared, v_maker, v_writer, .ref hp, .int i_madeDocuments, .int i_fetchedSteps])), (hd, .inl (cD, 8, .inr (.inr (.inr (.inr ((fD)))))))]) [0, 2] rfl
  have hKc := hK.sub (tys' := [(cD, .object R_D)]) [0] rfl
  refine ps_q (va_runV (As := [.int a1, .int a2]) (rest := []) ⟨hx, hb, hml, hown, hw0⟩ (g_keptR_D l dC dI h0 v_buffer v_fetched v_compared v_maker v_writer (.ref hp) i_madeDocuments i_fetchedSteps hd cD (fD) a1 a2 (by first | assumption | decide | omega)) (cwV 2 hw0 (gd_Vm wm_345 wm_346 wm_347 wm_226 wm_348) rfl rfl rfl (by decide +kernel) ⟨by decide +kernel, by decide +kernel⟩) (prV_R hPc hKc hN (va_recv hKc hPc (ci := 0) (q0 := 0) rfl rfl)) rfl rfl hl.1 rfl (lv_room (Nat.le_of_ble_eq_true rfl)) d_K_revision_14 ⟨by decide +kernel, by decide +kernel⟩) (fun r_2 hr_2 => ?_)
  obtain rfl : r_2 = none := hr_2
  refine W.eq (g2 := F0 m 17 ls [.null]) rfl ?_
  refine lv_astoreN (lv' := [(5, .null), (4, .null), (0, .ref h0), (1, .int a1), (2, .int a2), (3, .int a3)]) hx hb d_K_revision_17 hl (by decide) rfl (fun ls hl => ?_)
  refine lv_aloadN hx hb d_K_revision_19 (lv_at hl 1 rfl) ?_
  refine lv_ifnullN (tgt := 37) hx hb d_K_revision_21 (by decide) ?_
  refine lv_iconst (v := 0) hx hb d_K_revision_37 (by decide) ?_
  refine lv_istore (lv' := [(6, .int 0), (5, .null), (4, .null), (0, .ref h0), (1, .int a1), (2, .int a2), (3, .int a3)]) hx hb d_K_revision_38 hl (by decide) rfl (fun ls hl => ?_)
  refine lv_aloadN hx hb d_K_revision_40 (lv_at hl 1 rfl) ?_
  refine lv_ifnullN (tgt := 59) hx hb d_K_revision_42 (by decide) ?_
  have hP9 := hP.sub (ws' := [(h0, .inr (0, [.ref hd, v_buffer, v_fetched, v_compared, v_maker, v_writer, .ref hp, .int i_madeDocuments, .int i_fetchedSteps])), (hp, .inr (4, [.int 0, .int p_i_going, .int p_i_writesLeft])), (hd, .inl (cD, 8, .inr (.inr (.inr (.inr (fD))))))]) [0, 1, 2] rfl
  have hD9 := hD.sub (ws' := [(h0, .inr (0, [.ref hd, v_buffer, v_fetched, v_compared, v_maker, v_writer, .ref hp, .int i_madeDocuments, .int i_fetchedSteps])), (hp, .inr (4, [.int 0, .int p_i_going, .int p_i_writesLeft])), (hd, .inl (cD, 8, .inr (.inr (.inr (.inr (fD))))))]) [0, 1, 2] (by decide) rfl
  have hK9 := hK.sub (tys' := [(cD, .object R_D)]) [0] rfl
  have tw_at : ∀ w ∈ vx_at0 "TextKeeper" 142 "java/util/NoSuchElementException" ["java/lang/RuntimeException", "java/lang/Exception"], w.before _ s = true := vx_hat (fun w h => hw0 w (twN_1 w h)) twN_2 (fun w h => va_Nw.use (nw0_tab w h) (hN.1 w h))
  exact vx_throw0 (names := ["java/lang/RuntimeException", "java/lang/Exception"]) (ik := 140) (ic := 142) (A := A) hx hb hl9 hown (by decide +kernel) (by decide +kernel) (hw0 (.classLink "TextKeeper" 140 "java/util/NoSuchElementException") wm_437) (hw0 (.initialized "java/util/NoSuchElementException") wm_438) tw_at twN_g hTwA.1 hTwA.2 hS (by rw [hml]; exact hl.1) d_K_revision_59 d_K_revision_62 d_K_revision_63 d_K_revision_66 (fun x hx => (htab x hx).elim) (by decide +kernel) (by decide +kernel) (by decide +kernel) (by decide +kernel) hlocks (fun t hvm hz hk => ⟨(), trivial, ⟨rfl, hP9.kept (fun k q hq => hk _ ((hP9 k q hq).lt)), va_K.moved hvm hK9, hD9⟩, Nat.le_trans hS.1 hz, fun q h hn => (hk q (Nat.lt_of_lt_of_le h hS.1)).trans (hS.2.1 q h hn)⟩) hS.2.2 (by decide +kernel) (by decide +kernel)
set_option maxHeartbeats 4000000 in
set_option maxRecDepth 100000 in
theorem x_rev_K0 (l : Launch) (hl9 : l.stackTraces = false) (dC : Nat → ClassId) (dI : Nat → Nat → Nat) (sz : Nat) (h0 : Nat) (v_buffer : Value) (v_fetched : Value) (v_compared : Value) (v_maker : Value) (v_writer : Value) (i_madeDocuments : Int32) (i_fetchedSteps : Int32) (hp : Nat) (p_i_going : Int32) (p_i_writesLeft : Int32) (hd : Nat) (cD : ClassId) (fD : Nat → Option Nat) (hdo : Nat) (hra : Nat) (cR : ClassId) (df : Nat) (dn : Nat) (fr : Nat → Option Nat) (a1 : Int32) (a2 : Int32) (a3 : Int32) (hdS : atN 8 fD a1 = some hdo) (hdn : dn ≤ 64) (hna : a2 < nI df ∨ nI dn ≤ a2) (hkN : atN dn fr a2 = none) : vx_Met l y_K_revision k_K_revision ({ frames := 6, cells := 1, slots := 6, locals := 85 } : Room) (va_Pc [.ref h0, .int a1, .int a2, .int a3] (fun U => pc_E (dC, dI) [(h0, .inr (0, [.ref hd, v_buffer, v_fetched, v_compared, v_maker, v_writer, .ref hp, .int i_madeDocuments, .int i_fetchedSteps])), (hp, .inr (4, [.int 0, .int p_i_going, .int p_i_writesLeft])), (hd, .inl (cD, 8, .inr (.inr (.inr (.inr (fD)))))), (hdo, .inr (5, [.ref hra, .int (nI df), .int (nI dn)])), (hra, .inl (cR, 64, .inr (.inr (.inr (.inr (fr))))))] [(cD, .object R_D), (cR, .object R_V)] sz U ∧ tw_ok U)) (va_Qi (fun (_ : Int32) (_ : Unit) => False) (fun _ _ => True) (va_A [(h0, .inr (0, [.ref hd, v_buffer, v_fetched, v_compared, v_maker, v_writer, .ref hp, .int i_madeDocuments, .int i_fetchedSteps])), (hp, .inr (4, [.int 0, .int p_i_going, .int p_i_writesLeft])), (hd, .inl (cD, 8, .inr (.inr (.inr (.inr (fD)))))), (hdo, .inr (5, [.ref hra, .int (nI df), .int (nI dn)])), (hra, .inl (cR, 64, .inr (.inr (.inr (.inr (fr))))))] sz)) (vx_X (fun _ : Unit => True) (fun E _ t => E = "java/util/NoSuchElementException" ∧ at_E (dC, dI) (va_A [(h0, .inr (0, [.ref hd, v_buffer, v_fetched, v_compared, v_maker, v_writer, .ref hp, .int i_madeDocuments, .int i_fetchedSteps])), (hp, .inr (4, [.int 0, .int p_i_going, .int p_i_writesLeft])), (hd, .inl (cD, 8, .inr (.inr (.inr (.inr (fD)))))), (hdo, .inr (5, [.ref hra, .int (nI df), .int (nI dn)])), (hra, .inl (cR, 64, .inr (.inr (.inr (.inr (fr))))))] sz) [(h0, .inr (0, [.ref hd, v_buffer, v_fetched, v_compared, v_maker, v_writer, .ref hp, .int i_madeDocuments, .int i_fetchedSteps])), (hp, .inr (4, [.int 0, .int p_i_going, .int p_i_writesLeft])), (hd, .inl (cD, 8, .inr (.inr (.inr (.inr (fD)))))), (hdo, .inr (5, [.ref hra, .int (nI df), .int (nI dn)])), (hra, .inl (cR, 64, .inr (.inr (.inr (.inr (fr))))))] [(cD, .object R_D), (cR, .object R_V)] t) (va_A [(h0, .inr (0, [.ref hd, v_buffer, v_fetched, v_compared, v_maker, v_writer, .ref hp, .int i_madeDocuments, .int i_fetchedSteps])), (hp, .inr (4, [.int 0, .int p_i_going, .int p_i_writesLeft])), (hd, .inl (cD, 8, .inr (.inr (.inr (.inr (fD)))))), (hdo, .inr (5, [.ref hra, .int (nI df), .int (nI dn)])), (hra, .inl (cR, 64, .inr (.inr (.inr (.inr (fr))))))] sz)) 1 6 (va_A [(h0, .inr (0, [.ref hd, v_buffer, v_fetched, v_compared, v_maker, v_writer, .ref hp, .int i_madeDocuments, .int i_fetchedSteps])), (hp, .inr (4, [.int 0, .int p_i_going, .int p_i_writesLeft])), (hd, .inl (cD, 8, .inr (.inr (.inr (.inr (fD)))))), (hdo, .inr (5, [.ref hra, .int (nI df), .int (nI dn)])), (hra, .inl (cR, 64, .inr (.inr (.inr (.inr (fr))))))] sz) := by
  refine vx_ofW (cc := prog_1_method_12_code) (maxL := 7) (ret := (some .int)) (by decide) rfl ?_
  intro p e s m args below meth c s₁ B hml htab hv
  obtain ⟨rfl, ⟨hsz, hP, hK, hD0, hN⟩, hTw⟩ := hv
  have hx := B.exec
  have hb := B.bytes
  have hr := B.returns
  have hts := atoms_spec (ws := k_K_revision) B.pre
  have hw0 : ∀ w ∈ w0, w.before _ s = true := fun w h => hts w (List.mem_cons_of_mem _ h)
  have hown : s.vm.findClass R_K = some m.cls := findClass_of_methodNamed B.named
  have hlocks := B.notSynchronized
  subst hsz
  have hD := hD0.self (sz := s.heap.size)
  have hTwA := tw_A hTw hP
  generalize hAe : va_A [(h0, .inr (0, [.ref hd, v_buffer, v_fetched, v_compared, v_maker, v_writer, .ref hp, .int i_madeDocuments, .int i_fetchedSteps])), (hp, .inr (4, [.int 0, .int p_i_going, .int p_i_writesLeft])), (hd, .inl (cD, 8, .inr (.inr (.inr (.inr (fD)))))), (hdo, .inr (5, [.ref hra, .int (nI df), .int (nI dn)])), (hra, .inl (cR, 64, .inr (.inr (.inr (.inr (fr))))))] s.heap.size = A at hD hTwA ⊢
  have hA : ∀ q : Nat, s.heap.size ≤ q → A q := fun q h => by rw [← hAe]; exact Or.inr h
  have hS : va_S A s.heap s.heap [] := va_S.rf
  have hP : va_P (dC, dI) vwCl [(h0, .inr (0, [.ref hd, v_buffer, v_fetched, v_compared, v_maker, v_writer, .ref hp, .int i_madeDocuments, .int i_fetchedSteps])), (hp, .inr (4, [.int 0, .int p_i_going, .int p_i_writesLeft])), (hd, .inl (cD, 8, .inr (.inr (.inr (.inr (fD)))))), (hdo, .inr (5, [.ref hra, .int (nI df), .int (nI dn)])), (hra, .inl (cR, 64, .inr (.inr (.inr (.inr (fr))))))] s.heap := hP
  have hl := lv_entry ([.ref h0, .int a1, .int a2, .int a3]) (n := 7) (Nat.le_of_ble_eq_true rfl)
  rw [lg_entry_eq]
  generalize (lg_sl ([.ref h0, .int a1, .int a2, .int a3]) ++ List.replicate (7 - (lg_sl ([.ref h0, .int a1, .int a2, .int a3])).length) Slot.unset).toArray = ls at hl ⊢
  have hl : lv_has ls 7 [(0, .ref h0), (1, .int a1), (2, .int a2), (3, .int a3)] := hl
  refine lv_aload_n hx hb d_K_revision_0 rfl (lv_at hl 0 rfl) ?_
  have hPc := hP.sub (ws' := [(h0, .inr (0, [.ref hd, v_buffer, v_fetched, v_compared, v_maker, v_writer, .ref hp, .int i_madeDocuments, .int i_fetchedSteps])), (hp, .inr (4, [.int 0, .int p_i_going, .int p_i_writesLeft]))]) [0, 1] rfl
  have hKc := hK.sub (tys' := []) [] rfl
  refine ps_v (va_runV (As := []) (rest := []) ⟨hx, hb, hml, hown, hw0⟩ (g_needPower l dC dI h0 (.ref hd) v_buffer v_fetched v_compared v_maker v_writer i_madeDocuments i_fetchedSteps hp p_i_going p_i_writesLeft) (cwV 0 hw0 (gd_Vm wm_322 wm_323 wm_324 wm_226 wm_325) rfl rfl rfl (by decide +kernel) ⟨by decide +kernel, by decide +kernel⟩) (prV_R hPc hKc hN (va_recv hKc hPc (ci := 0) (q0 := 0) rfl rfl)) rfl rfl hl.1 rfl (lv_room (Nat.le_of_ble_eq_true rfl)) d_K_revision_1 ⟨by decide +kernel, by decide +kernel⟩) ?_
  refine lv_aload_n hx hb d_K_revision_4 rfl (lv_at hl 0 rfl) ?_
  refine lv_iload_n hx hb d_K_revision_5 rfl (lv_at hl 1 rfl) ?_
  have hPc := hP.sub (ws' := [(h0, .inr (0, [.ref hd, v_buffer, v_fetched, v_compared, v_maker, v_writer, .ref hp, .int i_madeDocuments, .int i_fetchedSteps])), (hd, .inl (cD, 8, .inr (.inr (.inr (.inr ((fD)))))))]) [0, 2] rfl
  have hKc := hK.sub (tys' := [(cD, .object R_D)]) [0] rfl
  refine ps_q (va_runV (As := [.int a1]) (rest := []) ⟨hx, hb, hml, hown, hw0⟩ (g_docAt_S l dC dI h0 v_buffer v_fetched v_compared v_maker v_writer (.ref hp) i_madeDocuments i_fetchedSteps hd cD (fD) a1 hdo (by first | assumption | decide | omega)) (cwV 1 hw0 (gd_Vm wm_317 wm_318 wm_319 wm_226 wm_320) rfl rfl rfl (by decide +kernel) ⟨by decide +kernel, by decide +kernel⟩) (prV_R hPc hKc hN (va_recv hKc hPc (ci := 0) (q0 := 0) rfl rfl)) rfl rfl hl.1 rfl (lv_room (Nat.le_of_ble_eq_true rfl)) d_K_revision_6 ⟨by decide +kernel, by decide +kernel⟩) (fun r_1 hr_1 => ?_)
  obtain rfl : r_1 = some hdo := hr_1
  refine W.eq (g2 := F0 m 9 ls [.ref hdo]) rfl ?_
  refine lv_astore (lv' := [(4, .ref hdo), (0, .ref h0), (1, .int a1), (2, .int a2), (3, .int a3)]) hx hb d_K_revision_9 hl (by decide) rfl (fun ls hl => ?_)
  refine lv_aload_n hx hb d_K_revision_11 rfl (lv_at hl 1 rfl) ?_
  refine lv_iload_n hx hb d_K_revision_12 rfl (lv_at hl 2 rfl) ?_
  refine lv_iload_n hx hb d_K_revision_13 rfl (lv_at hl 3 rfl) ?_
  have hPc := hP.sub (ws' := [(h0, .inr (0, [.ref hd, v_buffer, v_fetched, v_compared, v_maker, v_writer, .ref hp, .int i_madeDocuments, .int i_fetchedSteps])), (hd, .inl (cD, 8, .inr (.inr (.inr (.inr ((fD))))))), (hdo, .inr (5, [.ref hra, .int (nI df), .int (nI dn)])), (hra, .inl (cR, 64, .inr (.inr (.inr (.inr ((fr)))))))]) [0, 2, 3, 4] rfl
  have hKc := hK.sub (tys' := [(cD, .object R_D), (cR, .object R_V)]) [0, 1] rfl
  refine ps_q (va_runV (As := [.int a1, .int a2]) (rest := []) ⟨hx, hb, hml, hown, hw0⟩ (g_keptR_N l dC dI h0 v_buffer v_fetched v_compared v_maker v_writer (.ref hp) i_madeDocuments i_fetchedSteps hd cD (fD) _ hra cR df dn (fr) a1 a2 (by first | assumption | decide | omega) (by first | assumption | decide | omega) (by first | assumption | decide | omega)) (cwV 2 hw0 (gd_Vm wm_345 wm_346 wm_347 wm_226 wm_348) rfl rfl rfl (by decide +kernel) ⟨by decide +kernel, by decide +kernel⟩) (prV_R hPc hKc hN (va_recv hKc hPc (ci := 0) (q0 := 0) rfl rfl)) rfl rfl hl.1 rfl (lv_room (Nat.le_of_ble_eq_true rfl)) d_K_revision_14 ⟨by decide +kernel, by decide +kernel⟩) (fun r_2 hr_2 => ?_)
  obtain rfl : r_2 = none := hr_2
  refine W.eq (g2 := F0 m 17 ls [.null]) rfl ?_
  refine lv_astoreN (lv' := [(5, .null), (4, .ref hdo), (0, .ref h0), (1, .int a1), (2, .int a2), (3, .int a3)]) hx hb d_K_revision_17 hl (by decide) rfl (fun ls hl => ?_)
  refine lv_aload hx hb d_K_revision_19 (lv_at hl 1 rfl) ?_
  refine lv_ifnull hx hb d_K_revision_21 ?_
  refine lv_aload hx hb d_K_revision_24 (lv_at hl 1 rfl) ?_
  refine lv_iload_n hx hb d_K_revision_26 rfl (lv_at hl 4 rfl) ?_
  have hPc := hP.sub (ws' := [(hdo, .inr (5, [.ref hra, .int (nI df), .int (nI dn)])), (hra, .inl (cR, 64, .inr (.inr (.inr (.inr ((fr)))))))]) [3, 4] rfl
  have hKc := hK.sub (tys' := [(cR, .object R_V)]) [1] rfl
  refine ps_i (va_runV (As := [.int a2]) (rest := []) ⟨hx, hb, hml, hown, hw0⟩ (g_asked_F l dC dI hdo hra cR df dn (fr) a2 (by first | assumption | decide | omega)) (cwV 1 hw0 (gd_Vm wm_370 wm_371 wm_372 wm_233 wm_373) rfl rfl rfl (by decide +kernel) ⟨by decide +kernel, by decide +kernel⟩) (prV_R hPc hKc hN (va_recv hKc hPc (ci := 5) (q0 := 0) rfl rfl)) rfl rfl hl.1 rfl (lv_room (Nat.le_of_ble_eq_true rfl)) d_K_revision_27 ⟨by decide +kernel, by decide +kernel⟩) (fun r_3 hr_3 => ?_)
  obtain rfl : r_3 = 0 := hr_3
  refine lv_if_eq (tgt := 37) hx hb d_K_revision_30 (by decide) (fun _ => ?_) (fun h9 => absurd h9 (by decide +kernel))
  refine lv_iconst (v := 0) hx hb d_K_revision_37 (by decide) ?_
  refine lv_istore (lv' := [(6, .int 0), (5, .null), (4, .ref hdo), (0, .ref h0), (1, .int a1), (2, .int a2), (3, .int a3)]) hx hb d_K_revision_38 hl (by decide) rfl (fun ls hl => ?_)
  refine lv_aloadN hx hb d_K_revision_40 (lv_at hl 1 rfl) ?_
  refine lv_ifnullN (tgt := 59) hx hb d_K_revision_42 (by decide) ?_
  have hP9 := hP.sub (ws' := [(h0, .inr (0, [.ref hd, v_buffer, v_fetched, v_compared, v_maker, v_writer, .ref hp, .int i_madeDocuments, .int i_fetchedSteps])), (hp, .inr (4, [.int 0, .int p_i_going, .int p_i_writesLeft])), (hd, .inl (cD, 8, .inr (.inr (.inr (.inr (fD)))))), (hdo, .inr (5, [.ref hra, .int (nI df), .int (nI dn)])), (hra, .inl (cR, 64, .inr (.inr (.inr (.inr (fr))))))]) [0, 1, 2, 3, 4] rfl
  have hD9 := hD.sub (ws' := [(h0, .inr (0, [.ref hd, v_buffer, v_fetched, v_compared, v_maker, v_writer, .ref hp, .int i_madeDocuments, .int i_fetchedSteps])), (hp, .inr (4, [.int 0, .int p_i_going, .int p_i_writesLeft])), (hd, .inl (cD, 8, .inr (.inr (.inr (.inr (fD)))))), (hdo, .inr (5, [.ref hra, .int (nI df), .int (nI dn)])), (hra, .inl (cR, 64, .inr (.inr (.inr (.inr (fr))))))]) [0, 1, 2, 3, 4] (by decide) rfl
  have hK9 := hK.sub (tys' := [(cD, .object R_D), (cR, .object R_V)]) [0, 1] rfl
  have tw_at : ∀ w ∈ vx_at0 "TextKeeper" 142 "java/util/NoSuchElementException" ["java/lang/RuntimeException", "java/lang/Exception"], w.before _ s = true := vx_hat (fun w h => hw0 w (twN_1 w h)) twN_2 (fun w h => va_Nw.use (nw0_tab w h) (hN.1 w h))
  exact vx_throw0 (names := ["java/lang/RuntimeException", "java/lang/Exception"]) (ik := 140) (ic := 142) (A := A) hx hb hl9 hown (by decide +kernel) (by decide +kernel) (hw0 (.classLink "TextKeeper" 140 "java/util/NoSuchElementException") wm_437) (hw0 (.initialized "java/util/NoSuchElementException") wm_438) tw_at twN_g hTwA.1 hTwA.2 hS (by rw [hml]; exact hl.1) d_K_revision_59 d_K_revision_62 d_K_revision_63 d_K_revision_66 (fun x hx => (htab x hx).elim) (by decide +kernel) (by decide +kernel) (by decide +kernel) (by decide +kernel) hlocks (fun t hvm hz hk => ⟨(), trivial, ⟨rfl, hP9.kept (fun k q hq => hk _ ((hP9 k q hq).lt)), va_K.moved hvm hK9, hD9⟩, Nat.le_trans hS.1 hz, fun q h hn => (hk q (Nat.lt_of_lt_of_le h hS.1)).trans (hS.2.1 q h hn)⟩) hS.2.2 (by decide +kernel) (by decide +kernel)
set_option maxHeartbeats 4000000 in
set_option maxRecDepth 100000 in
theorem x_rev_F (l : Launch) (hl9 : l.stackTraces = false) (dC : Nat → ClassId) (dI : Nat → Nat → Nat) (sz : Nat) (h0 : Nat) (v_buffer : Value) (v_fetched : Value) (v_compared : Value) (v_maker : Value) (v_writer : Value) (i_madeDocuments : Int32) (i_fetchedSteps : Int32) (hp : Nat) (p_i_going : Int32) (p_i_writesLeft : Int32) (hd : Nat) (cD : ClassId) (fD : Nat → Option Nat) (hdo : Nat) (hra : Nat) (cR : ClassId) (df : Nat) (dn : Nat) (fr : Nat → Option Nat) (hv : Nat) (hpi : Nat) (cB : ClassId) (np : Nat) (fp : Nat → Int32) (au : Int32) (sm : Int32) (a1 : Int32) (a2 : Int32) (a3 : Int32) (hdS : atN 8 fD a1 = some hdo) (hdn : dn ≤ 64) (hna : a2 < nI df ∨ nI dn ≤ a2) (hkS : atN dn fr a2 = some hv) (hw0x : ¬ a3 = 0) (hw2x : ¬ a3 = 2) : vx_Met l y_K_revision k_K_revision ({ frames := 6, cells := 1, slots := 6, locals := 85 } : Room) (va_Pc [.ref h0, .int a1, .int a2, .int a3] (fun U => pc_E (dC, dI) [(h0, .inr (0, [.ref hd, v_buffer, v_fetched, v_compared, v_maker, v_writer, .ref hp, .int i_madeDocuments, .int i_fetchedSteps])), (hp, .inr (4, [.int 0, .int p_i_going, .int p_i_writesLeft])), (hd, .inl (cD, 8, .inr (.inr (.inr (.inr (fD)))))), (hdo, .inr (5, [.ref hra, .int (nI df), .int (nI dn)])), (hra, .inl (cR, 64, .inr (.inr (.inr (.inr (fr)))))), (hv, .inr (6, [.ref hpi, .int au, .int sm])), (hpi, .inl (cB, np, .inl (fp)))] [(cD, .object R_D), (cR, .object R_V), (cB, .byte)] sz U ∧ tw_ok U)) (va_Qi (fun (_ : Int32) (_ : Unit) => False) (fun _ _ => True) (va_A [(h0, .inr (0, [.ref hd, v_buffer, v_fetched, v_compared, v_maker, v_writer, .ref hp, .int i_madeDocuments, .int i_fetchedSteps])), (hp, .inr (4, [.int 0, .int p_i_going, .int p_i_writesLeft])), (hd, .inl (cD, 8, .inr (.inr (.inr (.inr (fD)))))), (hdo, .inr (5, [.ref hra, .int (nI df), .int (nI dn)])), (hra, .inl (cR, 64, .inr (.inr (.inr (.inr (fr)))))), (hv, .inr (6, [.ref hpi, .int au, .int sm])), (hpi, .inl (cB, np, .inl (fp)))] sz)) (vx_X (fun _ : Unit => True) (fun E _ t => E = "java/util/NoSuchElementException" ∧ at_E (dC, dI) (va_A [(h0, .inr (0, [.ref hd, v_buffer, v_fetched, v_compared, v_maker, v_writer, .ref hp, .int i_madeDocuments, .int i_fetchedSteps])), (hp, .inr (4, [.int 0, .int p_i_going, .int p_i_writesLeft])), (hd, .inl (cD, 8, .inr (.inr (.inr (.inr (fD)))))), (hdo, .inr (5, [.ref hra, .int (nI df), .int (nI dn)])), (hra, .inl (cR, 64, .inr (.inr (.inr (.inr (fr)))))), (hv, .inr (6, [.ref hpi, .int au, .int sm])), (hpi, .inl (cB, np, .inl (fp)))] sz) [(h0, .inr (0, [.ref hd, v_buffer, v_fetched, v_compared, v_maker, v_writer, .ref hp, .int i_madeDocuments, .int i_fetchedSteps])), (hp, .inr (4, [.int 0, .int p_i_going, .int p_i_writesLeft])), (hd, .inl (cD, 8, .inr (.inr (.inr (.inr (fD)))))), (hdo, .inr (5, [.ref hra, .int (nI df), .int (nI dn)])), (hra, .inl (cR, 64, .inr (.inr (.inr (.inr (fr)))))), (hv, .inr (6, [.ref hpi, .int au, .int sm])), (hpi, .inl (cB, np, .inl (fp)))] [(cD, .object R_D), (cR, .object R_V), (cB, .byte)] t) (va_A [(h0, .inr (0, [.ref hd, v_buffer, v_fetched, v_compared, v_maker, v_writer, .ref hp, .int i_madeDocuments, .int i_fetchedSteps])), (hp, .inr (4, [.int 0, .int p_i_going, .int p_i_writesLeft])), (hd, .inl (cD, 8, .inr (.inr (.inr (.inr (fD)))))), (hdo, .inr (5, [.ref hra, .int (nI df), .int (nI dn)])), (hra, .inl (cR, 64, .inr (.inr (.inr (.inr (fr)))))), (hv, .inr (6, [.ref hpi, .int au, .int sm])), (hpi, .inl (cB, np, .inl (fp)))] sz)) 1 6 (va_A [(h0, .inr (0, [.ref hd, v_buffer, v_fetched, v_compared, v_maker, v_writer, .ref hp, .int i_madeDocuments, .int i_fetchedSteps])), (hp, .inr (4, [.int 0, .int p_i_going, .int p_i_writesLeft])), (hd, .inl (cD, 8, .inr (.inr (.inr (.inr (fD)))))), (hdo, .inr (5, [.ref hra, .int (nI df), .int (nI dn)])), (hra, .inl (cR, 64, .inr (.inr (.inr (.inr (fr)))))), (hv, .inr (6, [.ref hpi, .int au, .int sm])), (hpi, .inl (cB, np, .inl (fp)))] sz) := by
  refine vx_ofW (cc := prog_1_method_12_code) (maxL := 7) (ret := (some .int)) (by decide) rfl ?_
  intro p e s m args below meth c s₁ B hml htab hv
  obtain ⟨rfl, ⟨hsz, hP, hK, hD0, hN⟩, hTw⟩ := hv
  have hx := B.exec
  have hb := B.bytes
  have hr := B.returns
  have hts := atoms_spec (ws := k_K_revision) B.pre
  have hw0 : ∀ w ∈ w0, w.before _ s = true := fun w h => hts w (List.mem_cons_of_mem _ h)
  have hown : s.vm.findClass R_K = some m.cls := findClass_of_methodNamed B.named
  have hlocks := B.notSynchronized
  subst hsz
  have hD := hD0.self (sz := s.heap.size)
  have hTwA := tw_A hTw hP
  generalize hAe : va_A [(h0, .inr (0, [.ref hd, v_buffer, v_fetched, v_compared, v_maker, v_writer, .ref hp, .int i_madeDocuments, .int i_fetchedSteps])), (hp, .inr (4, [.int 0, .int p_i_going, .int p_i_writesLeft])), (hd, .inl (cD, 8, .inr (.inr (.inr (.inr (fD)))))), (hdo, .inr (5, [.ref hra, .int (nI df), .int (nI dn)])), (hra, .inl (cR, 64, .inr (.inr (.inr (.inr (fr)))))), (hv, .inr (6, [.ref hpi, .int au, .int sm])), (hpi, .inl (cB, np, .inl (fp)))] s.heap.size = A at hD hTwA ⊢
  have hA : ∀ q : Nat, s.heap.size ≤ q → A q := fun q h => by rw [← hAe]; exact Or.inr h
  have hS : va_S A s.heap s.heap [] := va_S.rf
  have hP : va_P (dC, dI) vwCl [(h0, .inr (0, [.ref hd, v_buffer, v_fetched, v_compared, v_maker, v_writer, .ref hp, .int i_madeDocuments, .int i_fetchedSteps])), (hp, .inr (4, [.int 0, .int p_i_going, .int p_i_writesLeft])), (hd, .inl (cD, 8, .inr (.inr (.inr (.inr (fD)))))), (hdo, .inr (5, [.ref hra, .int (nI df), .int (nI dn)])), (hra, .inl (cR, 64, .inr (.inr (.inr (.inr (fr)))))), (hv, .inr (6, [.ref hpi, .int au, .int sm])), (hpi, .inl (cB, np, .inl (fp)))] s.heap := hP
  have hl := lv_entry ([.ref h0, .int a1, .int a2, .int a3]) (n := 7) (Nat.le_of_ble_eq_true rfl)
  rw [lg_entry_eq]
  generalize (lg_sl ([.ref h0, .int a1, .int a2, .int a3]) ++ List.replicate (7 - (lg_sl ([.ref h0, .int a1, .int a2, .int a3])).length) Slot.unset).toArray = ls at hl ⊢
  have hl : lv_has ls 7 [(0, .ref h0), (1, .int a1), (2, .int a2), (3, .int a3)] := hl
  refine lv_aload_n hx hb d_K_revision_0 rfl (lv_at hl 0 rfl) ?_
  have hPc := hP.sub (ws' := [(h0, .inr (0, [.ref hd, v_buffer, v_fetched, v_compared, v_maker, v_writer, .ref hp, .int i_madeDocuments, .int i_fetchedSteps])), (hp, .inr (4, [.int 0, .int p_i_going, .int p_i_writesLeft]))]) [0, 1] rfl
  have hKc := hK.sub (tys' := []) [] rfl
  refine ps_v (va_runV (As := []) (rest := []) ⟨hx, hb, hml, hown, hw0⟩ (g_needPower l dC dI h0 (.ref hd) v_buffer v_fetched v_compared v_maker v_writer i_madeDocuments i_fetchedSteps hp p_i_going p_i_writesLeft) (cwV 0 hw0 (gd_Vm wm_322 wm_323 wm_324 wm_226 wm_325) rfl rfl rfl (by decide +kernel) ⟨by decide +kernel, by decide +kernel⟩) (prV_R hPc hKc hN (va_recv hKc hPc (ci := 0) (q0 := 0) rfl rfl)) rfl rfl hl.1 rfl (lv_room (Nat.le_of_ble_eq_true rfl)) d_K_revision_1 ⟨by decide +kernel, by decide +kernel⟩) ?_
  refine lv_aload_n hx hb d_K_revision_4 rfl (lv_at hl 0 rfl) ?_
  refine lv_iload_n hx hb d_K_revision_5 rfl (lv_at hl 1 rfl) ?_
  have hPc := hP.sub (ws' := [(h0, .inr (0, [.ref hd, v_buffer, v_fetched, v_compared, v_maker, v_writer, .ref hp, .int i_madeDocuments, .int i_fetchedSteps])), (hd, .inl (cD, 8, .inr (.inr (.inr (.inr ((fD)))))))]) [0, 2] rfl
  have hKc := hK.sub (tys' := [(cD, .object R_D)]) [0] rfl
  refine ps_q (va_runV (As := [.int a1]) (rest := []) ⟨hx, hb, hml, hown, hw0⟩ (g_docAt_S l dC dI h0 v_buffer v_fetched v_compared v_maker v_writer (.ref hp) i_madeDocuments i_fetchedSteps hd cD (fD) a1 hdo (by first | assumption | decide | omega)) (cwV 1 hw0 (gd_Vm wm_317 wm_318 wm_319 wm_226 wm_320) rfl rfl rfl (by decide +kernel) ⟨by decide +kernel, by decide +kernel⟩) (prV_R hPc hKc hN (va_recv hKc hPc (ci := 0) (q0 := 0) rfl rfl)) rfl rfl hl.1 rfl (lv_room (Nat.le_of_ble_eq_true rfl)) d_K_revision_6 ⟨by decide +kernel, by decide +kernel⟩) (fun r_1 hr_1 => ?_)
  obtain rfl : r_1 = some hdo := hr_1
  refine W.eq (g2 := F0 m 9 ls [.ref hdo]) rfl ?_
  refine lv_astore (lv' := [(4, .ref hdo), (0, .ref h0), (1, .int a1), (2, .int a2), (3, .int a3)]) hx hb d_K_revision_9 hl (by decide) rfl (fun ls hl => ?_)
  refine lv_aload_n hx hb d_K_revision_11 rfl (lv_at hl 1 rfl) ?_
  refine lv_iload_n hx hb d_K_revision_12 rfl (lv_at hl 2 rfl) ?_
  refine lv_iload_n hx hb d_K_revision_13 rfl (lv_at hl 3 rfl) ?_
  have hPc := hP.sub (ws' := [(h0, .inr (0, [.ref hd, v_buffer, v_fetched, v_compared, v_maker, v_writer, .ref hp, .int i_madeDocuments, .int i_fetchedSteps])), (hd, .inl (cD, 8, .inr (.inr (.inr (.inr ((fD))))))), (hdo, .inr (5, [.ref hra, .int (nI df), .int (nI dn)])), (hra, .inl (cR, 64, .inr (.inr (.inr (.inr ((fr)))))))]) [0, 2, 3, 4] rfl
  have hKc := hK.sub (tys' := [(cD, .object R_D), (cR, .object R_V)]) [0, 1] rfl
  refine ps_q (va_runV (As := [.int a1, .int a2]) (rest := []) ⟨hx, hb, hml, hown, hw0⟩ (g_keptR_S l dC dI h0 v_buffer v_fetched v_compared v_maker v_writer (.ref hp) i_madeDocuments i_fetchedSteps hd cD (fD) _ hra cR df dn (fr) a1 a2 hv (by first | assumption | decide | omega) (by first | assumption | decide | omega) (by first | assumption | decide | omega)) (cwV 2 hw0 (gd_Vm wm_345 wm_346 wm_347 wm_226 wm_348) rfl rfl rfl (by decide +kernel) ⟨by decide +kernel, by decide +kernel⟩) (prV_R hPc hKc hN (va_recv hKc hPc (ci := 0) (q0 := 0) rfl rfl)) rfl rfl hl.1 rfl (lv_room (Nat.le_of_ble_eq_true rfl)) d_K_revision_14 ⟨by decide +kernel, by decide +kernel⟩) (fun r_2 hr_2 => ?_)
  obtain rfl : r_2 = some hv := hr_2
  refine W.eq (g2 := F0 m 17 ls [.ref hv]) rfl ?_
  refine lv_astore (lv' := [(5, .ref hv), (4, .ref hdo), (0, .ref h0), (1, .int a1), (2, .int a2), (3, .int a3)]) hx hb d_K_revision_17 hl (by decide) rfl (fun ls hl => ?_)
  refine lv_aload hx hb d_K_revision_19 (lv_at hl 1 rfl) ?_
  refine lv_ifnull hx hb d_K_revision_21 ?_
  refine lv_aload hx hb d_K_revision_24 (lv_at hl 1 rfl) ?_
  refine lv_iload_n hx hb d_K_revision_26 rfl (lv_at hl 4 rfl) ?_
  have hPc := hP.sub (ws' := [(hdo, .inr (5, [.ref hra, .int (nI df), .int (nI dn)])), (hra, .inl (cR, 64, .inr (.inr (.inr (.inr ((fr)))))))]) [3, 4] rfl
  have hKc := hK.sub (tys' := [(cR, .object R_V)]) [1] rfl
  refine ps_i (va_runV (As := [.int a2]) (rest := []) ⟨hx, hb, hml, hown, hw0⟩ (g_asked_F l dC dI hdo hra cR df dn (fr) a2 (by first | assumption | decide | omega)) (cwV 1 hw0 (gd_Vm wm_370 wm_371 wm_372 wm_233 wm_373) rfl rfl rfl (by decide +kernel) ⟨by decide +kernel, by decide +kernel⟩) (prV_R hPc hKc hN (va_recv hKc hPc (ci := 5) (q0 := 0) rfl rfl)) rfl rfl hl.1 rfl (lv_room (Nat.le_of_ble_eq_true rfl)) d_K_revision_27 ⟨by decide +kernel, by decide +kernel⟩) (fun r_3 hr_3 => ?_)
  obtain rfl : r_3 = 0 := hr_3
  refine lv_if_eq (tgt := 37) hx hb d_K_revision_30 (by decide) (fun _ => ?_) (fun h9 => absurd h9 (by decide +kernel))
  refine lv_iconst (v := 0) hx hb d_K_revision_37 (by decide) ?_
  refine lv_istore (lv' := [(6, .int 0), (5, .ref hv), (4, .ref hdo), (0, .ref h0), (1, .int a1), (2, .int a2), (3, .int a3)]) hx hb d_K_revision_38 hl (by decide) rfl (fun ls hl => ?_)
  refine lv_aload hx hb d_K_revision_40 (lv_at hl 1 rfl) ?_
  refine lv_ifnull hx hb d_K_revision_42 ?_
  refine lv_iload hx hb d_K_revision_45 (lv_at hl 0 rfl) ?_
  refine lv_if_ne (tgt := 67) hx hb d_K_revision_47 (by decide) (fun h9 => absurd h9 (by decide +kernel)) (fun _ => ?_)
  refine lv_iload_n hx hb d_K_revision_50 rfl (lv_at hl 6 rfl) ?_
  refine lv_if_eq (tgt := 67) hx hb d_K_revision_51 (by decide) (fun c_4 => absurd c_4 hw0x) (fun c_4 => ?_)
  refine lv_iload_n hx hb d_K_revision_54 rfl (lv_at hl 6 rfl) ?_
  refine lv_iconst (v := 2) hx hb d_K_revision_55 (by decide) ?_
  refine lv_icmp_eq (tgt := 67) hx hb d_K_revision_56 (by decide) (fun c_5 => absurd c_5 hw2x) (fun c_5 => ?_)
  have hP9 := hP.sub (ws' := [(h0, .inr (0, [.ref hd, v_buffer, v_fetched, v_compared, v_maker, v_writer, .ref hp, .int i_madeDocuments, .int i_fetchedSteps])), (hp, .inr (4, [.int 0, .int p_i_going, .int p_i_writesLeft])), (hd, .inl (cD, 8, .inr (.inr (.inr (.inr (fD)))))), (hdo, .inr (5, [.ref hra, .int (nI df), .int (nI dn)])), (hra, .inl (cR, 64, .inr (.inr (.inr (.inr (fr)))))), (hv, .inr (6, [.ref hpi, .int au, .int sm])), (hpi, .inl (cB, np, .inl (fp)))]) [0, 1, 2, 3, 4, 5, 6] rfl
  have hD9 := hD.sub (ws' := [(h0, .inr (0, [.ref hd, v_buffer, v_fetched, v_compared, v_maker, v_writer, .ref hp, .int i_madeDocuments, .int i_fetchedSteps])), (hp, .inr (4, [.int 0, .int p_i_going, .int p_i_writesLeft])), (hd, .inl (cD, 8, .inr (.inr (.inr (.inr (fD)))))), (hdo, .inr (5, [.ref hra, .int (nI df), .int (nI dn)])), (hra, .inl (cR, 64, .inr (.inr (.inr (.inr (fr)))))), (hv, .inr (6, [.ref hpi, .int au, .int sm])), (hpi, .inl (cB, np, .inl (fp)))]) [0, 1, 2, 3, 4, 5, 6] (by decide) rfl
  have hK9 := hK.sub (tys' := [(cD, .object R_D), (cR, .object R_V), (cB, .byte)]) [0, 1, 2] rfl
  have tw_at : ∀ w ∈ vx_at0 "TextKeeper" 142 "java/util/NoSuchElementException" ["java/lang/RuntimeException", "java/lang/Exception"], w.before _ s = true := vx_hat (fun w h => hw0 w (twN_1 w h)) twN_2 (fun w h => va_Nw.use (nw0_tab w h) (hN.1 w h))
  exact vx_throw0 (names := ["java/lang/RuntimeException", "java/lang/Exception"]) (ik := 140) (ic := 142) (A := A) hx hb hl9 hown (by decide +kernel) (by decide +kernel) (hw0 (.classLink "TextKeeper" 140 "java/util/NoSuchElementException") wm_437) (hw0 (.initialized "java/util/NoSuchElementException") wm_438) tw_at twN_g hTwA.1 hTwA.2 hS (by rw [hml]; exact hl.1) d_K_revision_59 d_K_revision_62 d_K_revision_63 d_K_revision_66 (fun x hx => (htab x hx).elim) (by decide +kernel) (by decide +kernel) (by decide +kernel) (by decide +kernel) hlocks (fun t hvm hz hk => ⟨(), trivial, ⟨rfl, hP9.kept (fun k q hq => hk _ ((hP9 k q hq).lt)), va_K.moved hvm hK9, hD9⟩, Nat.le_trans hS.1 hz, fun q h hn => (hk q (Nat.lt_of_lt_of_le h hS.1)).trans (hS.2.1 q h hn)⟩) hS.2.2 (by decide +kernel) (by decide +kernel)
set_option maxHeartbeats 4000000 in
set_option maxRecDepth 100000 in
theorem g_rev_F0 (l : Launch) (dC : Nat → ClassId) (dI : Nat → Nat → Nat) (h0 : Nat) (v_buffer : Value) (v_fetched : Value) (v_compared : Value) (v_maker : Value) (v_writer : Value) (i_madeDocuments : Int32) (i_fetchedSteps : Int32) (hp : Nat) (p_i_going : Int32) (p_i_writesLeft : Int32) (hd : Nat) (cD : ClassId) (fD : Nat → Option Nat) (hdo : Nat) (hra : Nat) (cR : ClassId) (df : Nat) (dn : Nat) (fr : Nat → Option Nat) (hv : Nat) (hpi : Nat) (cB : ClassId) (np : Nat) (fp : Nat → Int32) (au : Int32) (sm : Int32) (a1 : Int32) (a2 : Int32) (hdS : atN 8 fD a1 = some hdo) (hdn : dn ≤ 64) (hna : a2 < nI df ∨ nI dn ≤ a2) (hkS : atN dn fr a2 = some hv) : Met l y_K_revision k_K_revision ({ frames := 2, cells := 0, slots := 0, locals := 44 } : Room) (va_Pc [.ref h0, .int a1, .int a2, .int 0] (pc_R (dC, dI) [(h0, .inr (0, [.ref hd, v_buffer, v_fetched, v_compared, v_maker, v_writer, .ref hp, .int i_madeDocuments, .int i_fetchedSteps])), (hp, .inr (4, [.int 0, .int p_i_going, .int p_i_writesLeft])), (hd, .inl (cD, 8, .inr (.inr (.inr (.inr (fD)))))), (hdo, .inr (5, [.ref hra, .int (nI df), .int (nI dn)])), (hra, .inl (cR, 64, .inr (.inr (.inr (.inr (fr)))))), (hv, .inr (6, [.ref hpi, .int au, .int sm])), (hpi, .inl (cB, np, .inl (fp)))] [(cD, .object R_D), (cR, .object R_V), (cB, .byte)])) (vp_Si (fun r => r = nI np)) 0 0 (fun _ => False) := by
  refine Met.ofW (cc := prog_1_method_12_code) (maxL := 7) (ret := (some .int)) (by decide) rfl ?_
  intro p e s m args below meth c s₁ B hml hv
  obtain ⟨rfl, hP, hK, hN⟩ := hv
  have hx := B.exec
  have hb := B.bytes
  have hr := B.returns
  have hts := atoms_spec (ws := k_K_revision) B.pre
  have hw0 : ∀ w ∈ w0, w.before _ s = true := fun w h => hts w (List.mem_cons_of_mem _ h)
  have hown : s.vm.findClass R_K = some m.cls := findClass_of_methodNamed B.named
  have hlocks := B.notSynchronized
  have hP : va_P (dC, dI) vwCl [(h0, .inr (0, [.ref hd, v_buffer, v_fetched, v_compared, v_maker, v_writer, .ref hp, .int i_madeDocuments, .int i_fetchedSteps])), (hp, .inr (4, [.int 0, .int p_i_going, .int p_i_writesLeft])), (hd, .inl (cD, 8, .inr (.inr (.inr (.inr (fD)))))), (hdo, .inr (5, [.ref hra, .int (nI df), .int (nI dn)])), (hra, .inl (cR, 64, .inr (.inr (.inr (.inr (fr)))))), (hv, .inr (6, [.ref hpi, .int au, .int sm])), (hpi, .inl (cB, np, .inl (fp)))] s.heap := hP
  have hl := lv_entry ([.ref h0, .int a1, .int a2, .int 0]) (n := 7) (Nat.le_of_ble_eq_true rfl)
  rw [lg_entry_eq]
  generalize (lg_sl ([.ref h0, .int a1, .int a2, .int 0]) ++ List.replicate (7 - (lg_sl ([.ref h0, .int a1, .int a2, .int 0])).length) Slot.unset).toArray = ls at hl ⊢
  have hl : lv_has ls 7 [(0, .ref h0), (1, .int a1), (2, .int a2), (3, .int 0)] := hl
  refine lv_aload_n hx hb d_K_revision_0 rfl (lv_at hl 0 rfl) ?_
  have hPc := hP.sub (ws' := [(h0, .inr (0, [.ref hd, v_buffer, v_fetched, v_compared, v_maker, v_writer, .ref hp, .int i_madeDocuments, .int i_fetchedSteps])), (hp, .inr (4, [.int 0, .int p_i_going, .int p_i_writesLeft]))]) [0, 1] rfl
  have hKc := hK.sub (tys' := []) [] rfl
  refine ps_v (va_runV (As := []) (rest := []) ⟨hx, hb, hml, hown, hw0⟩ (g_needPower l dC dI h0 (.ref hd) v_buffer v_fetched v_compared v_maker v_writer i_madeDocuments i_fetchedSteps hp p_i_going p_i_writesLeft) (cwV 0 hw0 (gd_Vm wm_322 wm_323 wm_324 wm_226 wm_325) rfl rfl rfl (by decide +kernel) ⟨by decide +kernel, by decide +kernel⟩) (prV_R hPc hKc hN (va_recv hKc hPc (ci := 0) (q0 := 0) rfl rfl)) rfl rfl hl.1 rfl (lv_room (Nat.le_of_ble_eq_true rfl)) d_K_revision_1 ⟨by decide +kernel, by decide +kernel⟩) ?_
  refine lv_aload_n hx hb d_K_revision_4 rfl (lv_at hl 0 rfl) ?_
  refine lv_iload_n hx hb d_K_revision_5 rfl (lv_at hl 1 rfl) ?_
  have hPc := hP.sub (ws' := [(h0, .inr (0, [.ref hd, v_buffer, v_fetched, v_compared, v_maker, v_writer, .ref hp, .int i_madeDocuments, .int i_fetchedSteps])), (hd, .inl (cD, 8, .inr (.inr (.inr (.inr ((fD)))))))]) [0, 2] rfl
  have hKc := hK.sub (tys' := [(cD, .object R_D)]) [0] rfl
  refine ps_q (va_runV (As := [.int a1]) (rest := []) ⟨hx, hb, hml, hown, hw0⟩ (g_docAt_S l dC dI h0 v_buffer v_fetched v_compared v_maker v_writer (.ref hp) i_madeDocuments i_fetchedSteps hd cD (fD) a1 hdo (by first | assumption | decide | omega)) (cwV 1 hw0 (gd_Vm wm_317 wm_318 wm_319 wm_226 wm_320) rfl rfl rfl (by decide +kernel) ⟨by decide +kernel, by decide +kernel⟩) (prV_R hPc hKc hN (va_recv hKc hPc (ci := 0) (q0 := 0) rfl rfl)) rfl rfl hl.1 rfl (lv_room (Nat.le_of_ble_eq_true rfl)) d_K_revision_6 ⟨by decide +kernel, by decide +kernel⟩) (fun r_1 hr_1 => ?_)
  obtain rfl : r_1 = some hdo := hr_1
  refine W.eq (g2 := F0 m 9 ls [.ref hdo]) rfl ?_
  refine lv_astore (lv' := [(4, .ref hdo), (0, .ref h0), (1, .int a1), (2, .int a2), (3, .int 0)]) hx hb d_K_revision_9 hl (by decide) rfl (fun ls hl => ?_)
  refine lv_aload_n hx hb d_K_revision_11 rfl (lv_at hl 1 rfl) ?_
  refine lv_iload_n hx hb d_K_revision_12 rfl (lv_at hl 2 rfl) ?_
  refine lv_iload_n hx hb d_K_revision_13 rfl (lv_at hl 3 rfl) ?_
  have hPc := hP.sub (ws' := [(h0, .inr (0, [.ref hd, v_buffer, v_fetched, v_compared, v_maker, v_writer, .ref hp, .int i_madeDocuments, .int i_fetchedSteps])), (hd, .inl (cD, 8, .inr (.inr (.inr (.inr ((fD))))))), (hdo, .inr (5, [.ref hra, .int (nI df), .int (nI dn)])), (hra, .inl (cR, 64, .inr (.inr (.inr (.inr ((fr)))))))]) [0, 2, 3, 4] rfl
  have hKc := hK.sub (tys' := [(cD, .object R_D), (cR, .object R_V)]) [0, 1] rfl
  refine ps_q (va_runV (As := [.int a1, .int a2]) (rest := []) ⟨hx, hb, hml, hown, hw0⟩ (g_keptR_S l dC dI h0 v_buffer v_fetched v_compared v_maker v_writer (.ref hp) i_madeDocuments i_fetchedSteps hd cD (fD) _ hra cR df dn (fr) a1 a2 hv (by first | assumption | decide | omega) (by first | assumption | decide | omega) (by first | assumption | decide | omega)) (cwV 2 hw0 (gd_Vm wm_345 wm_346 wm_347 wm_226 wm_348) rfl rfl rfl (by decide +kernel) ⟨by decide +kernel, by decide +kernel⟩) (prV_R hPc hKc hN (va_recv hKc hPc (ci := 0) (q0 := 0) rfl rfl)) rfl rfl hl.1 rfl (lv_room (Nat.le_of_ble_eq_true rfl)) d_K_revision_14 ⟨by decide +kernel, by decide +kernel⟩) (fun r_2 hr_2 => ?_)
  obtain rfl : r_2 = some hv := hr_2
  refine W.eq (g2 := F0 m 17 ls [.ref hv]) rfl ?_
  refine lv_astore (lv' := [(5, .ref hv), (4, .ref hdo), (0, .ref h0), (1, .int a1), (2, .int a2), (3, .int 0)]) hx hb d_K_revision_17 hl (by decide) rfl (fun ls hl => ?_)
  refine lv_aload hx hb d_K_revision_19 (lv_at hl 1 rfl) ?_
  refine lv_ifnull hx hb d_K_revision_21 ?_
  refine lv_aload hx hb d_K_revision_24 (lv_at hl 1 rfl) ?_
  refine lv_iload_n hx hb d_K_revision_26 rfl (lv_at hl 4 rfl) ?_
  have hPc := hP.sub (ws' := [(hdo, .inr (5, [.ref hra, .int (nI df), .int (nI dn)])), (hra, .inl (cR, 64, .inr (.inr (.inr (.inr ((fr)))))))]) [3, 4] rfl
  have hKc := hK.sub (tys' := [(cR, .object R_V)]) [1] rfl
  refine ps_i (va_runV (As := [.int a2]) (rest := []) ⟨hx, hb, hml, hown, hw0⟩ (g_asked_F l dC dI hdo hra cR df dn (fr) a2 (by first | assumption | decide | omega)) (cwV 1 hw0 (gd_Vm wm_370 wm_371 wm_372 wm_233 wm_373) rfl rfl rfl (by decide +kernel) ⟨by decide +kernel, by decide +kernel⟩) (prV_R hPc hKc hN (va_recv hKc hPc (ci := 5) (q0 := 0) rfl rfl)) rfl rfl hl.1 rfl (lv_room (Nat.le_of_ble_eq_true rfl)) d_K_revision_27 ⟨by decide +kernel, by decide +kernel⟩) (fun r_3 hr_3 => ?_)
  obtain rfl : r_3 = 0 := hr_3
  refine lv_if_eq (tgt := 37) hx hb d_K_revision_30 (by decide) (fun _ => ?_) (fun h9 => absurd h9 (by decide +kernel))
  refine lv_iconst (v := 0) hx hb d_K_revision_37 (by decide) ?_
  refine lv_istore (lv' := [(6, .int 0), (5, .ref hv), (4, .ref hdo), (0, .ref h0), (1, .int a1), (2, .int a2), (3, .int 0)]) hx hb d_K_revision_38 hl (by decide) rfl (fun ls hl => ?_)
  refine lv_aload hx hb d_K_revision_40 (lv_at hl 1 rfl) ?_
  refine lv_ifnull hx hb d_K_revision_42 ?_
  refine lv_iload hx hb d_K_revision_45 (lv_at hl 0 rfl) ?_
  refine lv_if_ne (tgt := 67) hx hb d_K_revision_47 (by decide) (fun h9 => absurd h9 (by decide +kernel)) (fun _ => ?_)
  refine lv_iload_n hx hb d_K_revision_50 rfl (lv_at hl 6 rfl) ?_
  refine lv_if_eq (tgt := 67) hx hb d_K_revision_51 (by decide) (fun _ => ?_) (fun h9 => absurd h9 (by decide +kernel))
  refine lv_iload_n hx hb d_K_revision_67 rfl (lv_at hl 6 rfl) ?_
  refine lv_tableIn (tgt := 96) hx hb d_K_revision_68 (by decide +kernel) (by decide +kernel) rfl (by decide) ?_
  refine lv_aload hx hb d_K_revision_96 (lv_at hl 1 rfl) ?_
  refine va_getN (D := (dC, dI)) (ci := 6) (v := .ref hpi) (C := R_V) (T := F_V) (N := 3) hx hb hw0 in_V hown hK hP 5 rfl rfl 0 (by decide) (va_Nw.use rfl (hN.1 (.fieldLinkNest R_K 153 "TextKeeper$Revision" "piece" "[B" "TextKeeper") (List.mem_of_getElem? (i := 8) rfl))) (fun _ h9 => h9) rfl d_K_revision_98 ?_
  refine va_alen (v := nI np) hx hb hK hP 6 2 rfl rfl (rfl) d_K_revision_101 ?_
  exact W.iret (v := (nI np)) hx hb hr (fun t ht hW => ⟨(nI np), rfl, rfl, ht⟩) (fun q h => by cases h) d_K_revision_102
set_option maxHeartbeats 4000000 in
set_option maxRecDepth 100000 in
theorem g_rev_F2 (l : Launch) (dC : Nat → ClassId) (dI : Nat → Nat → Nat) (h0 : Nat) (v_buffer : Value) (v_fetched : Value) (v_compared : Value) (v_maker : Value) (v_writer : Value) (i_madeDocuments : Int32) (i_fetchedSteps : Int32) (hp : Nat) (p_i_going : Int32) (p_i_writesLeft : Int32) (hd : Nat) (cD : ClassId) (fD : Nat → Option Nat) (hdo : Nat) (hra : Nat) (cR : ClassId) (df : Nat) (dn : Nat) (fr : Nat → Option Nat) (hv : Nat) (hpi : Nat) (cB : ClassId) (np : Nat) (fp : Nat → Int32) (au : Int32) (sm : Int32) (a1 : Int32) (a2 : Int32) (hdS : atN 8 fD a1 = some hdo) (hdn : dn ≤ 64) (hna : a2 < nI df ∨ nI dn ≤ a2) (hkS : atN dn fr a2 = some hv) : Met l y_K_revision k_K_revision ({ frames := 2, cells := 0, slots := 0, locals := 44 } : Room) (va_Pc [.ref h0, .int a1, .int a2, .int 2] (pc_R (dC, dI) [(h0, .inr (0, [.ref hd, v_buffer, v_fetched, v_compared, v_maker, v_writer, .ref hp, .int i_madeDocuments, .int i_fetchedSteps])), (hp, .inr (4, [.int 0, .int p_i_going, .int p_i_writesLeft])), (hd, .inl (cD, 8, .inr (.inr (.inr (.inr (fD)))))), (hdo, .inr (5, [.ref hra, .int (nI df), .int (nI dn)])), (hra, .inl (cR, 64, .inr (.inr (.inr (.inr (fr)))))), (hv, .inr (6, [.ref hpi, .int au, .int sm])), (hpi, .inl (cB, np, .inl (fp)))] [(cD, .object R_D), (cR, .object R_V), (cB, .byte)])) (vp_Si (fun r => r = sm)) 0 0 (fun _ => False) := by
  refine Met.ofW (cc := prog_1_method_12_code) (maxL := 7) (ret := (some .int)) (by decide) rfl ?_
  intro p e s m args below meth c s₁ B hml hv
  obtain ⟨rfl, hP, hK, hN⟩ := hv
  have hx := B.exec
  have hb := B.bytes
  have hr := B.returns
  have hts := atoms_spec (ws := k_K_revision) B.pre
  have hw0 : ∀ w ∈ w0, w.before _ s = true := fun w h => hts w (List.mem_cons_of_mem _ h)
  have hown : s.vm.findClass R_K = some m.cls := findClass_of_methodNamed B.named
  have hlocks := B.notSynchronized
  have hP : va_P (dC, dI) vwCl [(h0, .inr (0, [.ref hd, v_buffer, v_fetched, v_compared, v_maker, v_writer, .ref hp, .int i_madeDocuments, .int i_fetchedSteps])), (hp, .inr (4, [.int 0, .int p_i_going, .int p_i_writesLeft])), (hd, .inl (cD, 8, .inr (.inr (.inr (.inr (fD)))))), (hdo, .inr (5, [.ref hra, .int (nI df), .int (nI dn)])), (hra, .inl (cR, 64, .inr (.inr (.inr (.inr (fr)))))), (hv, .inr (6, [.ref hpi, .int au, .int sm])), (hpi, .inl (cB, np, .inl (fp)))] s.heap := hP
  have hl := lv_entry ([.ref h0, .int a1, .int a2, .int 2]) (n := 7) (Nat.le_of_ble_eq_true rfl)
  rw [lg_entry_eq]
  generalize (lg_sl ([.ref h0, .int a1, .int a2, .int 2]) ++ List.replicate (7 - (lg_sl ([.ref h0, .int a1, .int a2, .int 2])).length) Slot.unset).toArray = ls at hl ⊢
  have hl : lv_has ls 7 [(0, .ref h0), (1, .int a1), (2, .int a2), (3, .int 2)] := hl
  refine lv_aload_n hx hb d_K_revision_0 rfl (lv_at hl 0 rfl) ?_
  have hPc := hP.sub (ws' := [(h0, .inr (0, [.ref hd, v_buffer, v_fetched, v_compared, v_maker, v_writer, .ref hp, .int i_madeDocuments, .int i_fetchedSteps])), (hp, .inr (4, [.int 0, .int p_i_going, .int p_i_writesLeft]))]) [0, 1] rfl
  have hKc := hK.sub (tys' := []) [] rfl
  refine ps_v (va_runV (As := []) (rest := []) ⟨hx, hb, hml, hown, hw0⟩ (g_needPower l dC dI h0 (.ref hd) v_buffer v_fetched v_compared v_maker v_writer i_madeDocuments i_fetchedSteps hp p_i_going p_i_writesLeft) (cwV 0 hw0 (gd_Vm wm_322 wm_323 wm_324 wm_226 wm_325) rfl rfl rfl (by decide +kernel) ⟨by decide +kernel, by decide +kernel⟩) (prV_R hPc hKc hN (va_recv hKc hPc (ci := 0) (q0 := 0) rfl rfl)) rfl rfl hl.1 rfl (lv_room (Nat.le_of_ble_eq_true rfl)) d_K_revision_1 ⟨by decide +kernel, by decide +kernel⟩) ?_
  refine lv_aload_n hx hb d_K_revision_4 rfl (lv_at hl 0 rfl) ?_
  refine lv_iload_n hx hb d_K_revision_5 rfl (lv_at hl 1 rfl) ?_
  have hPc := hP.sub (ws' := [(h0, .inr (0, [.ref hd, v_buffer, v_fetched, v_compared, v_maker, v_writer, .ref hp, .int i_madeDocuments, .int i_fetchedSteps])), (hd, .inl (cD, 8, .inr (.inr (.inr (.inr ((fD)))))))]) [0, 2] rfl
  have hKc := hK.sub (tys' := [(cD, .object R_D)]) [0] rfl
  refine ps_q (va_runV (As := [.int a1]) (rest := []) ⟨hx, hb, hml, hown, hw0⟩ (g_docAt_S l dC dI h0 v_buffer v_fetched v_compared v_maker v_writer (.ref hp) i_madeDocuments i_fetchedSteps hd cD (fD) a1 hdo (by first | assumption | decide | omega)) (cwV 1 hw0 (gd_Vm wm_317 wm_318 wm_319 wm_226 wm_320) rfl rfl rfl (by decide +kernel) ⟨by decide +kernel, by decide +kernel⟩) (prV_R hPc hKc hN (va_recv hKc hPc (ci := 0) (q0 := 0) rfl rfl)) rfl rfl hl.1 rfl (lv_room (Nat.le_of_ble_eq_true rfl)) d_K_revision_6 ⟨by decide +kernel, by decide +kernel⟩) (fun r_1 hr_1 => ?_)
  obtain rfl : r_1 = some hdo := hr_1
  refine W.eq (g2 := F0 m 9 ls [.ref hdo]) rfl ?_
  refine lv_astore (lv' := [(4, .ref hdo), (0, .ref h0), (1, .int a1), (2, .int a2), (3, .int 2)]) hx hb d_K_revision_9 hl (by decide) rfl (fun ls hl => ?_)
  refine lv_aload_n hx hb d_K_revision_11 rfl (lv_at hl 1 rfl) ?_
  refine lv_iload_n hx hb d_K_revision_12 rfl (lv_at hl 2 rfl) ?_
  refine lv_iload_n hx hb d_K_revision_13 rfl (lv_at hl 3 rfl) ?_
  have hPc := hP.sub (ws' := [(h0, .inr (0, [.ref hd, v_buffer, v_fetched, v_compared, v_maker, v_writer, .ref hp, .int i_madeDocuments, .int i_fetchedSteps])), (hd, .inl (cD, 8, .inr (.inr (.inr (.inr ((fD))))))), (hdo, .inr (5, [.ref hra, .int (nI df), .int (nI dn)])), (hra, .inl (cR, 64, .inr (.inr (.inr (.inr ((fr)))))))]) [0, 2, 3, 4] rfl
  have hKc := hK.sub (tys' := [(cD, .object R_D), (cR, .object R_V)]) [0, 1] rfl
  refine ps_q (va_runV (As := [.int a1, .int a2]) (rest := []) ⟨hx, hb, hml, hown, hw0⟩ (g_keptR_S l dC dI h0 v_buffer v_fetched v_compared v_maker v_writer (.ref hp) i_madeDocuments i_fetchedSteps hd cD (fD) _ hra cR df dn (fr) a1 a2 hv (by first | assumption | decide | omega) (by first | assumption | decide | omega) (by first | assumption | decide | omega)) (cwV 2 hw0 (gd_Vm wm_345 wm_346 wm_347 wm_226 wm_348) rfl rfl rfl (by decide +kernel) ⟨by decide +kernel, by decide +kernel⟩) (prV_R hPc hKc hN (va_recv hKc hPc (ci := 0) (q0 := 0) rfl rfl)) rfl rfl hl.1 rfl (lv_room (Nat.le_of_ble_eq_true rfl)) d_K_revision_14 ⟨by decide +kernel, by decide +kernel⟩) (fun r_2 hr_2 => ?_)
  obtain rfl : r_2 = some hv := hr_2
  refine W.eq (g2 := F0 m 17 ls [.ref hv]) rfl ?_
  refine lv_astore (lv' := [(5, .ref hv), (4, .ref hdo), (0, .ref h0), (1, .int a1), (2, .int a2), (3, .int 2)]) hx hb d_K_revision_17 hl (by decide) rfl (fun ls hl => ?_)
  refine lv_aload hx hb d_K_revision_19 (lv_at hl 1 rfl) ?_
  refine lv_ifnull hx hb d_K_revision_21 ?_
  refine lv_aload hx hb d_K_revision_24 (lv_at hl 1 rfl) ?_
  refine lv_iload_n hx hb d_K_revision_26 rfl (lv_at hl 4 rfl) ?_
  have hPc := hP.sub (ws' := [(hdo, .inr (5, [.ref hra, .int (nI df), .int (nI dn)])), (hra, .inl (cR, 64, .inr (.inr (.inr (.inr ((fr)))))))]) [3, 4] rfl
  have hKc := hK.sub (tys' := [(cR, .object R_V)]) [1] rfl
  refine ps_i (va_runV (As := [.int a2]) (rest := []) ⟨hx, hb, hml, hown, hw0⟩ (g_asked_F l dC dI hdo hra cR df dn (fr) a2 (by first | assumption | decide | omega)) (cwV 1 hw0 (gd_Vm wm_370 wm_371 wm_372 wm_233 wm_373) rfl rfl rfl (by decide +kernel) ⟨by decide +kernel, by decide +kernel⟩) (prV_R hPc hKc hN (va_recv hKc hPc (ci := 5) (q0 := 0) rfl rfl)) rfl rfl hl.1 rfl (lv_room (Nat.le_of_ble_eq_true rfl)) d_K_revision_27 ⟨by decide +kernel, by decide +kernel⟩) (fun r_3 hr_3 => ?_)
  obtain rfl : r_3 = 0 := hr_3
  refine lv_if_eq (tgt := 37) hx hb d_K_revision_30 (by decide) (fun _ => ?_) (fun h9 => absurd h9 (by decide +kernel))
  refine lv_iconst (v := 0) hx hb d_K_revision_37 (by decide) ?_
  refine lv_istore (lv' := [(6, .int 0), (5, .ref hv), (4, .ref hdo), (0, .ref h0), (1, .int a1), (2, .int a2), (3, .int 2)]) hx hb d_K_revision_38 hl (by decide) rfl (fun ls hl => ?_)
  refine lv_aload hx hb d_K_revision_40 (lv_at hl 1 rfl) ?_
  refine lv_ifnull hx hb d_K_revision_42 ?_
  refine lv_iload hx hb d_K_revision_45 (lv_at hl 0 rfl) ?_
  refine lv_if_ne (tgt := 67) hx hb d_K_revision_47 (by decide) (fun h9 => absurd h9 (by decide +kernel)) (fun _ => ?_)
  refine lv_iload_n hx hb d_K_revision_50 rfl (lv_at hl 6 rfl) ?_
  refine lv_if_eq (tgt := 67) hx hb d_K_revision_51 (by decide) (fun h9 => absurd h9 (by decide +kernel)) (fun _ => ?_)
  refine lv_iload_n hx hb d_K_revision_54 rfl (lv_at hl 6 rfl) ?_
  refine lv_iconst (v := 2) hx hb d_K_revision_55 (by decide) ?_
  refine lv_icmp_eq (tgt := 67) hx hb d_K_revision_56 (by decide) (fun _ => ?_) (fun h9 => absurd h9 (by decide +kernel))
  refine lv_iload_n hx hb d_K_revision_67 rfl (lv_at hl 6 rfl) ?_
  refine lv_tableIn (tgt := 109) hx hb d_K_revision_68 (by decide +kernel) (by decide +kernel) rfl (by decide) ?_
  refine lv_aload hx hb d_K_revision_109 (lv_at hl 1 rfl) ?_
  refine va_getN (D := (dC, dI)) (ci := 6) (v := .int sm) (C := R_V) (T := F_V) (N := 3) hx hb hw0 in_V hown hK hP 5 rfl rfl 2 (by decide) (va_Nw.use rfl (hN.1 (.fieldLinkNest R_K 160 "TextKeeper$Revision" "sum" "I" "TextKeeper") (List.mem_of_getElem? (i := 11) rfl))) (fun _ h9 => h9) rfl d_K_revision_111 ?_
  exact W.iret (v := sm) hx hb hr (fun t ht hW => ⟨sm, rfl, rfl, ht⟩) (fun q h => by cases h) d_K_revision_114
set_option maxHeartbeats 4000000 in
set_option maxRecDepth 100000 in
theorem g_rev_A0 (l : Launch) (dC : Nat → ClassId) (dI : Nat → Nat → Nat) (h0 : Nat) (v_buffer : Value) (v_fetched : Value) (v_compared : Value) (v_maker : Value) (v_writer : Value) (i_madeDocuments : Int32) (i_fetchedSteps : Int32) (hp : Nat) (p_i_going : Int32) (p_i_writesLeft : Int32) (hd : Nat) (cD : ClassId) (fD : Nat → Option Nat) (hdo : Nat) (hra : Nat) (cR : ClassId) (df : Nat) (dn : Nat) (fr : Nat → Option Nat) (hv : Nat) (hpi : Nat) (cB : ClassId) (np : Nat) (fp : Nat → Int32) (au : Int32) (sm : Int32) (a1 : Int32) (r9 : Nat) (hdS : atN 8 fD a1 = some hdo) (hdn : dn ≤ 64) (hkS : atN dn fr (nI r9) = some hv) (ha1 : df ≤ r9) (ha2 : r9 < dn) : Met l y_K_revision k_K_revision ({ frames := 2, cells := 0, slots := 0, locals := 44 } : Room) (va_Pc [.ref h0, .int a1, .int (nI r9), .int 0] (pc_R (dC, dI) [(h0, .inr (0, [.ref hd, v_buffer, v_fetched, v_compared, v_maker, v_writer, .ref hp, .int i_madeDocuments, .int i_fetchedSteps])), (hp, .inr (4, [.int 0, .int p_i_going, .int p_i_writesLeft])), (hd, .inl (cD, 8, .inr (.inr (.inr (.inr (fD)))))), (hdo, .inr (5, [.ref hra, .int (nI df), .int (nI dn)])), (hra, .inl (cR, 64, .inr (.inr (.inr (.inr (fr)))))), (hv, .inr (6, [.ref hpi, .int au, .int sm])), (hpi, .inl (cB, np, .inl (fp)))] [(cD, .object R_D), (cR, .object R_V), (cB, .byte)])) (vp_Si (fun r => r = nI np)) 0 0 (fun _ => False) := by
  refine Met.ofW (cc := prog_1_method_12_code) (maxL := 7) (ret := (some .int)) (by decide) rfl ?_
  intro p e s m args below meth c s₁ B hml hv
  obtain ⟨rfl, hP, hK, hN⟩ := hv
  have hx := B.exec
  have hb := B.bytes
  have hr := B.returns
  have hts := atoms_spec (ws := k_K_revision) B.pre
  have hw0 : ∀ w ∈ w0, w.before _ s = true := fun w h => hts w (List.mem_cons_of_mem _ h)
  have hown : s.vm.findClass R_K = some m.cls := findClass_of_methodNamed B.named
  have hlocks := B.notSynchronized
  have hP : va_P (dC, dI) vwCl [(h0, .inr (0, [.ref hd, v_buffer, v_fetched, v_compared, v_maker, v_writer, .ref hp, .int i_madeDocuments, .int i_fetchedSteps])), (hp, .inr (4, [.int 0, .int p_i_going, .int p_i_writesLeft])), (hd, .inl (cD, 8, .inr (.inr (.inr (.inr (fD)))))), (hdo, .inr (5, [.ref hra, .int (nI df), .int (nI dn)])), (hra, .inl (cR, 64, .inr (.inr (.inr (.inr (fr)))))), (hv, .inr (6, [.ref hpi, .int au, .int sm])), (hpi, .inl (cB, np, .inl (fp)))] s.heap := hP
  have hl := lv_entry ([.ref h0, .int a1, .int (nI r9), .int 0]) (n := 7) (Nat.le_of_ble_eq_true rfl)
  rw [lg_entry_eq]
  generalize (lg_sl ([.ref h0, .int a1, .int (nI r9), .int 0]) ++ List.replicate (7 - (lg_sl ([.ref h0, .int a1, .int (nI r9), .int 0])).length) Slot.unset).toArray = ls at hl ⊢
  have hl : lv_has ls 7 [(0, .ref h0), (1, .int a1), (2, .int (nI r9)), (3, .int 0)] := hl
  refine lv_aload_n hx hb d_K_revision_0 rfl (lv_at hl 0 rfl) ?_
  have hPc := hP.sub (ws' := [(h0, .inr (0, [.ref hd, v_buffer, v_fetched, v_compared, v_maker, v_writer, .ref hp, .int i_madeDocuments, .int i_fetchedSteps])), (hp, .inr (4, [.int 0, .int p_i_going, .int p_i_writesLeft]))]) [0, 1] rfl
  have hKc := hK.sub (tys' := []) [] rfl
  refine ps_v (va_runV (As := []) (rest := []) ⟨hx, hb, hml, hown, hw0⟩ (g_needPower l dC dI h0 (.ref hd) v_buffer v_fetched v_compared v_maker v_writer i_madeDocuments i_fetchedSteps hp p_i_going p_i_writesLeft) (cwV 0 hw0 (gd_Vm wm_322 wm_323 wm_324 wm_226 wm_325) rfl rfl rfl (by decide +kernel) ⟨by decide +kernel, by decide +kernel⟩) (prV_R hPc hKc hN (va_recv hKc hPc (ci := 0) (q0 := 0) rfl rfl)) rfl rfl hl.1 rfl (lv_room (Nat.le_of_ble_eq_true rfl)) d_K_revision_1 ⟨by decide +kernel, by decide +kernel⟩) ?_
  refine lv_aload_n hx hb d_K_revision_4 rfl (lv_at hl 0 rfl) ?_
  refine lv_iload_n hx hb d_K_revision_5 rfl (lv_at hl 1 rfl) ?_
  have hPc := hP.sub (ws' := [(h0, .inr (0, [.ref hd, v_buffer, v_fetched, v_compared, v_maker, v_writer, .ref hp, .int i_madeDocuments, .int i_fetchedSteps])), (hd, .inl (cD, 8, .inr (.inr (.inr (.inr ((fD)))))))]) [0, 2] rfl
  have hKc := hK.sub (tys' := [(cD, .object R_D)]) [0] rfl
  refine ps_q (va_runV (As := [.int a1]) (rest := []) ⟨hx, hb, hml, hown, hw0⟩ (g_docAt_S l dC dI h0 v_buffer v_fetched v_compared v_maker v_writer (.ref hp) i_madeDocuments i_fetchedSteps hd cD (fD) a1 hdo (by first | assumption | decide | omega)) (cwV 1 hw0 (gd_Vm wm_317 wm_318 wm_319 wm_226 wm_320) rfl rfl rfl (by decide +kernel) ⟨by decide +kernel, by decide +kernel⟩) (prV_R hPc hKc hN (va_recv hKc hPc (ci := 0) (q0 := 0) rfl rfl)) rfl rfl hl.1 rfl (lv_room (Nat.le_of_ble_eq_true rfl)) d_K_revision_6 ⟨by decide +kernel, by decide +kernel⟩) (fun r_1 hr_1 => ?_)
  obtain rfl : r_1 = some hdo := hr_1
  refine W.eq (g2 := F0 m 9 ls [.ref hdo]) rfl ?_
  refine lv_astore (lv' := [(4, .ref hdo), (0, .ref h0), (1, .int a1), (2, .int (nI r9)), (3, .int 0)]) hx hb d_K_revision_9 hl (by decide) rfl (fun ls hl => ?_)
  refine lv_aload_n hx hb d_K_revision_11 rfl (lv_at hl 1 rfl) ?_
  refine lv_iload_n hx hb d_K_revision_12 rfl (lv_at hl 2 rfl) ?_
  refine lv_iload_n hx hb d_K_revision_13 rfl (lv_at hl 3 rfl) ?_
  have hPc := hP.sub (ws' := [(h0, .inr (0, [.ref hd, v_buffer, v_fetched, v_compared, v_maker, v_writer, .ref hp, .int i_madeDocuments, .int i_fetchedSteps])), (hd, .inl (cD, 8, .inr (.inr (.inr (.inr ((fD))))))), (hdo, .inr (5, [.ref hra, .int (nI df), .int (nI dn)])), (hra, .inl (cR, 64, .inr (.inr (.inr (.inr ((fr)))))))]) [0, 2, 3, 4] rfl
  have hKc := hK.sub (tys' := [(cD, .object R_D), (cR, .object R_V)]) [0, 1] rfl
  refine ps_q (va_runV (As := [.int a1, .int (nI r9)]) (rest := []) ⟨hx, hb, hml, hown, hw0⟩ (g_keptR_S l dC dI h0 v_buffer v_fetched v_compared v_maker v_writer (.ref hp) i_madeDocuments i_fetchedSteps hd cD (fD) _ hra cR df dn (fr) a1 (nI r9) hv (by first | assumption | decide | omega) (by first | assumption | decide | omega) (by first | assumption | decide | omega)) (cwV 2 hw0 (gd_Vm wm_345 wm_346 wm_347 wm_226 wm_348) rfl rfl rfl (by decide +kernel) ⟨by decide +kernel, by decide +kernel⟩) (prV_R hPc hKc hN (va_recv hKc hPc (ci := 0) (q0 := 0) rfl rfl)) rfl rfl hl.1 rfl (lv_room (Nat.le_of_ble_eq_true rfl)) d_K_revision_14 ⟨by decide +kernel, by decide +kernel⟩) (fun r_2 hr_2 => ?_)
  obtain rfl : r_2 = some hv := hr_2
  refine W.eq (g2 := F0 m 17 ls [.ref hv]) rfl ?_
  refine lv_astore (lv' := [(5, .ref hv), (4, .ref hdo), (0, .ref h0), (1, .int a1), (2, .int (nI r9)), (3, .int 0)]) hx hb d_K_revision_17 hl (by decide) rfl (fun ls hl => ?_)
  refine lv_aload hx hb d_K_revision_19 (lv_at hl 1 rfl) ?_
  refine lv_ifnull hx hb d_K_revision_21 ?_
  refine lv_aload hx hb d_K_revision_24 (lv_at hl 1 rfl) ?_
  refine lv_iload_n hx hb d_K_revision_26 rfl (lv_at hl 4 rfl) ?_
  have hPc := hP.sub (ws' := [(hdo, .inr (5, [.ref hra, .int (nI df), .int (nI dn)])), (hra, .inl (cR, 64, .inr (.inr (.inr (.inr ((fr)))))))]) [3, 4] rfl
  have hKc := hK.sub (tys' := [(cR, .object R_V)]) [1] rfl
  refine ps_i (va_runV (As := [.int (nI r9)]) (rest := []) ⟨hx, hb, hml, hown, hw0⟩ (g_asked_T l dC dI hdo hra cR df dn (fr) r9 (by first | assumption | decide | omega) (by first | assumption | decide | omega) (by first | assumption | decide | omega)) (cwV 1 hw0 (gd_Vm wm_370 wm_371 wm_372 wm_233 wm_373) rfl rfl rfl (by decide +kernel) ⟨by decide +kernel, by decide +kernel⟩) (prV_R hPc hKc hN (va_recv hKc hPc (ci := 5) (q0 := 0) rfl rfl)) rfl rfl hl.1 rfl (lv_room (Nat.le_of_ble_eq_true rfl)) d_K_revision_27 ⟨by decide +kernel, by decide +kernel⟩) (fun r_3 hr_3 => ?_)
  obtain rfl : r_3 = 1 := hr_3
  refine lv_if_eq (tgt := 37) hx hb d_K_revision_30 (by decide) (fun h9 => absurd h9 (by decide +kernel)) (fun _ => ?_)
  refine lv_iconst (v := 1) hx hb d_K_revision_33 (by decide) ?_
  refine lv_goto (tgt := 38) hx hb d_K_revision_34 (by decide) ?_
  refine lv_istore (lv' := [(6, .int 1), (5, .ref hv), (4, .ref hdo), (0, .ref h0), (1, .int a1), (2, .int (nI r9)), (3, .int 0)]) hx hb d_K_revision_38 hl (by decide) rfl (fun ls hl => ?_)
  refine lv_aload hx hb d_K_revision_40 (lv_at hl 1 rfl) ?_
  refine lv_ifnull hx hb d_K_revision_42 ?_
  refine lv_iload hx hb d_K_revision_45 (lv_at hl 0 rfl) ?_
  refine lv_if_ne (tgt := 67) hx hb d_K_revision_47 (by decide) (fun _ => ?_) (fun h9 => absurd h9 (by decide +kernel))
  refine lv_iload_n hx hb d_K_revision_67 rfl (lv_at hl 6 rfl) ?_
  refine lv_tableIn (tgt := 96) hx hb d_K_revision_68 (by decide +kernel) (by decide +kernel) rfl (by decide) ?_
  refine lv_aload hx hb d_K_revision_96 (lv_at hl 1 rfl) ?_
  refine va_getN (D := (dC, dI)) (ci := 6) (v := .ref hpi) (C := R_V) (T := F_V) (N := 3) hx hb hw0 in_V hown hK hP 5 rfl rfl 0 (by decide) (va_Nw.use rfl (hN.1 (.fieldLinkNest R_K 153 "TextKeeper$Revision" "piece" "[B" "TextKeeper") (List.mem_of_getElem? (i := 8) rfl))) (fun _ h9 => h9) rfl d_K_revision_98 ?_
  refine va_alen (v := nI np) hx hb hK hP 6 2 rfl rfl (rfl) d_K_revision_101 ?_
  exact W.iret (v := (nI np)) hx hb hr (fun t ht hW => ⟨(nI np), rfl, rfl, ht⟩) (fun q h => by cases h) d_K_revision_102
set_option maxHeartbeats 4000000 in
set_option maxRecDepth 100000 in
theorem g_rev_A1 (l : Launch) (dC : Nat → ClassId) (dI : Nat → Nat → Nat) (h0 : Nat) (v_buffer : Value) (v_fetched : Value) (v_compared : Value) (v_maker : Value) (v_writer : Value) (i_madeDocuments : Int32) (i_fetchedSteps : Int32) (hp : Nat) (p_i_going : Int32) (p_i_writesLeft : Int32) (hd : Nat) (cD : ClassId) (fD : Nat → Option Nat) (hdo : Nat) (hra : Nat) (cR : ClassId) (df : Nat) (dn : Nat) (fr : Nat → Option Nat) (hv : Nat) (hpi : Nat) (cB : ClassId) (np : Nat) (fp : Nat → Int32) (au : Int32) (sm : Int32) (a1 : Int32) (r9 : Nat) (hdS : atN 8 fD a1 = some hdo) (hdn : dn ≤ 64) (hkS : atN dn fr (nI r9) = some hv) (ha1 : df ≤ r9) (ha2 : r9 < dn) : Met l y_K_revision k_K_revision ({ frames := 2, cells := 0, slots := 0, locals := 44 } : Room) (va_Pc [.ref h0, .int a1, .int (nI r9), .int 1] (pc_R (dC, dI) [(h0, .inr (0, [.ref hd, v_buffer, v_fetched, v_compared, v_maker, v_writer, .ref hp, .int i_madeDocuments, .int i_fetchedSteps])), (hp, .inr (4, [.int 0, .int p_i_going, .int p_i_writesLeft])), (hd, .inl (cD, 8, .inr (.inr (.inr (.inr (fD)))))), (hdo, .inr (5, [.ref hra, .int (nI df), .int (nI dn)])), (hra, .inl (cR, 64, .inr (.inr (.inr (.inr (fr)))))), (hv, .inr (6, [.ref hpi, .int au, .int sm])), (hpi, .inl (cB, np, .inl (fp)))] [(cD, .object R_D), (cR, .object R_V), (cB, .byte)])) (vp_Si (fun r => r = au)) 0 0 (fun _ => False) := by
  refine Met.ofW (cc := prog_1_method_12_code) (maxL := 7) (ret := (some .int)) (by decide) rfl ?_
  intro p e s m args below meth c s₁ B hml hv
  obtain ⟨rfl, hP, hK, hN⟩ := hv
  have hx := B.exec
  have hb := B.bytes
  have hr := B.returns
  have hts := atoms_spec (ws := k_K_revision) B.pre
  have hw0 : ∀ w ∈ w0, w.before _ s = true := fun w h => hts w (List.mem_cons_of_mem _ h)
  have hown : s.vm.findClass R_K = some m.cls := findClass_of_methodNamed B.named
  have hlocks := B.notSynchronized
  have hP : va_P (dC, dI) vwCl [(h0, .inr (0, [.ref hd, v_buffer, v_fetched, v_compared, v_maker, v_writer, .ref hp, .int i_madeDocuments, .int i_fetchedSteps])), (hp, .inr (4, [.int 0, .int p_i_going, .int p_i_writesLeft])), (hd, .inl (cD, 8, .inr (.inr (.inr (.inr (fD)))))), (hdo, .inr (5, [.ref hra, .int (nI df), .int (nI dn)])), (hra, .inl (cR, 64, .inr (.inr (.inr (.inr (fr)))))), (hv, .inr (6, [.ref hpi, .int au, .int sm])), (hpi, .inl (cB, np, .inl (fp)))] s.heap := hP
  have hl := lv_entry ([.ref h0, .int a1, .int (nI r9), .int 1]) (n := 7) (Nat.le_of_ble_eq_true rfl)
  rw [lg_entry_eq]
  generalize (lg_sl ([.ref h0, .int a1, .int (nI r9), .int 1]) ++ List.replicate (7 - (lg_sl ([.ref h0, .int a1, .int (nI r9), .int 1])).length) Slot.unset).toArray = ls at hl ⊢
  have hl : lv_has ls 7 [(0, .ref h0), (1, .int a1), (2, .int (nI r9)), (3, .int 1)] := hl
  refine lv_aload_n hx hb d_K_revision_0 rfl (lv_at hl 0 rfl) ?_
  have hPc := hP.sub (ws' := [(h0, .inr (0, [.ref hd, v_buffer, v_fetched, v_compared, v_maker, v_writer, .ref hp, .int i_madeDocuments, .int i_fetchedSteps])), (hp, .inr (4, [.int 0, .int p_i_going, .int p_i_writesLeft]))]) [0, 1] rfl
  have hKc := hK.sub (tys' := []) [] rfl
  refine ps_v (va_runV (As := []) (rest := []) ⟨hx, hb, hml, hown, hw0⟩ (g_needPower l dC dI h0 (.ref hd) v_buffer v_fetched v_compared v_maker v_writer i_madeDocuments i_fetchedSteps hp p_i_going p_i_writesLeft) (cwV 0 hw0 (gd_Vm wm_322 wm_323 wm_324 wm_226 wm_325) rfl rfl rfl (by decide +kernel) ⟨by decide +kernel, by decide +kernel⟩) (prV_R hPc hKc hN (va_recv hKc hPc (ci := 0) (q0 := 0) rfl rfl)) rfl rfl hl.1 rfl (lv_room (Nat.le_of_ble_eq_true rfl)) d_K_revision_1 ⟨by decide +kernel, by decide +kernel⟩) ?_
  refine lv_aload_n hx hb d_K_revision_4 rfl (lv_at hl 0 rfl) ?_
  refine lv_iload_n hx hb d_K_revision_5 rfl (lv_at hl 1 rfl) ?_
  have hPc := hP.sub (ws' := [(h0, .inr (0, [.ref hd, v_buffer, v_fetched, v_compared, v_maker, v_writer, .ref hp, .int i_madeDocuments, .int i_fetchedSteps])), (hd, .inl (cD, 8, .inr (.inr (.inr (.inr ((fD)))))))]) [0, 2] rfl
  have hKc := hK.sub (tys' := [(cD, .object R_D)]) [0] rfl
  refine ps_q (va_runV (As := [.int a1]) (rest := []) ⟨hx, hb, hml, hown, hw0⟩ (g_docAt_S l dC dI h0 v_buffer v_fetched v_compared v_maker v_writer (.ref hp) i_madeDocuments i_fetchedSteps hd cD (fD) a1 hdo (by first | assumption | decide | omega)) (cwV 1 hw0 (gd_Vm wm_317 wm_318 wm_319 wm_226 wm_320) rfl rfl rfl (by decide +kernel) ⟨by decide +kernel, by decide +kernel⟩) (prV_R hPc hKc hN (va_recv hKc hPc (ci := 0) (q0 := 0) rfl rfl)) rfl rfl hl.1 rfl (lv_room (Nat.le_of_ble_eq_true rfl)) d_K_revision_6 ⟨by decide +kernel, by decide +kernel⟩) (fun r_1 hr_1 => ?_)
  obtain rfl : r_1 = some hdo := hr_1
  refine W.eq (g2 := F0 m 9 ls [.ref hdo]) rfl ?_
  refine lv_astore (lv' := [(4, .ref hdo), (0, .ref h0), (1, .int a1), (2, .int (nI r9)), (3, .int 1)]) hx hb d_K_revision_9 hl (by decide) rfl (fun ls hl => ?_)
  refine lv_aload_n hx hb d_K_revision_11 rfl (lv_at hl 1 rfl) ?_
  refine lv_iload_n hx hb d_K_revision_12 rfl (lv_at hl 2 rfl) ?_
  refine lv_iload_n hx hb d_K_revision_13 rfl (lv_at hl 3 rfl) ?_
  have hPc := hP.sub (ws' := [(h0, .inr (0, [.ref hd, v_buffer, v_fetched, v_compared, v_maker, v_writer, .ref hp, .int i_madeDocuments, .int i_fetchedSteps])), (hd, .inl (cD, 8, .inr (.inr (.inr (.inr ((fD))))))), (hdo, .inr (5, [.ref hra, .int (nI df), .int (nI dn)])), (hra, .inl (cR, 64, .inr (.inr (.inr (.inr ((fr)))))))]) [0, 2, 3, 4] rfl
  have hKc := hK.sub (tys' := [(cD, .object R_D), (cR, .object R_V)]) [0, 1] rfl
  refine ps_q (va_runV (As := [.int a1, .int (nI r9)]) (rest := []) ⟨hx, hb, hml, hown, hw0⟩ (g_keptR_S l dC dI h0 v_buffer v_fetched v_compared v_maker v_writer (.ref hp) i_madeDocuments i_fetchedSteps hd cD (fD) _ hra cR df dn (fr) a1 (nI r9) hv (by first | assumption | decide | omega) (by first | assumption | decide | omega) (by first | assumption | decide | omega)) (cwV 2 hw0 (gd_Vm wm_345 wm_346 wm_347 wm_226 wm_348) rfl rfl rfl (by decide +kernel) ⟨by decide +kernel, by decide +kernel⟩) (prV_R hPc hKc hN (va_recv hKc hPc (ci := 0) (q0 := 0) rfl rfl)) rfl rfl hl.1 rfl (lv_room (Nat.le_of_ble_eq_true rfl)) d_K_revision_14 ⟨by decide +kernel, by decide +kernel⟩) (fun r_2 hr_2 => ?_)
  obtain rfl : r_2 = some hv := hr_2
  refine W.eq (g2 := F0 m 17 ls [.ref hv]) rfl ?_
  refine lv_astore (lv' := [(5, .ref hv), (4, .ref hdo), (0, .ref h0), (1, .int a1), (2, .int (nI r9)), (3, .int 1)]) hx hb d_K_revision_17 hl (by decide) rfl (fun ls hl => ?_)
  refine lv_aload hx hb d_K_revision_19 (lv_at hl 1 rfl) ?_
  refine lv_ifnull hx hb d_K_revision_21 ?_
  refine lv_aload hx hb d_K_revision_24 (lv_at hl 1 rfl) ?_
  refine lv_iload_n hx hb d_K_revision_26 rfl (lv_at hl 4 rfl) ?_
  have hPc := hP.sub (ws' := [(hdo, .inr (5, [.ref hra, .int (nI df), .int (nI dn)])), (hra, .inl (cR, 64, .inr (.inr (.inr (.inr ((fr)))))))]) [3, 4] rfl
  have hKc := hK.sub (tys' := [(cR, .object R_V)]) [1] rfl
  refine ps_i (va_runV (As := [.int (nI r9)]) (rest := []) ⟨hx, hb, hml, hown, hw0⟩ (g_asked_T l dC dI hdo hra cR df dn (fr) r9 (by first | assumption | decide | omega) (by first | assumption | decide | omega) (by first | assumption | decide | omega)) (cwV 1 hw0 (gd_Vm wm_370 wm_371 wm_372 wm_233 wm_373) rfl rfl rfl (by decide +kernel) ⟨by decide +kernel, by decide +kernel⟩) (prV_R hPc hKc hN (va_recv hKc hPc (ci := 5) (q0 := 0) rfl rfl)) rfl rfl hl.1 rfl (lv_room (Nat.le_of_ble_eq_true rfl)) d_K_revision_27 ⟨by decide +kernel, by decide +kernel⟩) (fun r_3 hr_3 => ?_)
  obtain rfl : r_3 = 1 := hr_3
  refine lv_if_eq (tgt := 37) hx hb d_K_revision_30 (by decide) (fun h9 => absurd h9 (by decide +kernel)) (fun _ => ?_)
  refine lv_iconst (v := 1) hx hb d_K_revision_33 (by decide) ?_
  refine lv_goto (tgt := 38) hx hb d_K_revision_34 (by decide) ?_
  refine lv_istore (lv' := [(6, .int 1), (5, .ref hv), (4, .ref hdo), (0, .ref h0), (1, .int a1), (2, .int (nI r9)), (3, .int 1)]) hx hb d_K_revision_38 hl (by decide) rfl (fun ls hl => ?_)
  refine lv_aload hx hb d_K_revision_40 (lv_at hl 1 rfl) ?_
  refine lv_ifnull hx hb d_K_revision_42 ?_
  refine lv_iload hx hb d_K_revision_45 (lv_at hl 0 rfl) ?_
  refine lv_if_ne (tgt := 67) hx hb d_K_revision_47 (by decide) (fun _ => ?_) (fun h9 => absurd h9 (by decide +kernel))
  refine lv_iload_n hx hb d_K_revision_67 rfl (lv_at hl 6 rfl) ?_
  refine lv_tableIn (tgt := 103) hx hb d_K_revision_68 (by decide +kernel) (by decide +kernel) rfl (by decide) ?_
  refine lv_aload hx hb d_K_revision_103 (lv_at hl 1 rfl) ?_
  refine va_getN (D := (dC, dI)) (ci := 6) (v := .int au) (C := R_V) (T := F_V) (N := 3) hx hb hw0 in_V hown hK hP 5 rfl rfl 1 (by decide) (va_Nw.use rfl (hN.1 (.fieldLinkNest R_K 157 "TextKeeper$Revision" "author" "I" "TextKeeper") (List.mem_of_getElem? (i := 13) rfl))) (fun _ h9 => h9) rfl d_K_revision_105 ?_
  exact W.iret (v := au) hx hb hr (fun t ht hW => ⟨au, rfl, rfl, ht⟩) (fun q h => by cases h) d_K_revision_108
set_option maxHeartbeats 4000000 in
set_option maxRecDepth 100000 in
theorem g_rev_A2 (l : Launch) (dC : Nat → ClassId) (dI : Nat → Nat → Nat) (h0 : Nat) (v_buffer : Value) (v_fetched : Value) (v_compared : Value) (v_maker : Value) (v_writer : Value) (i_madeDocuments : Int32) (i_fetchedSteps : Int32) (hp : Nat) (p_i_going : Int32) (p_i_writesLeft : Int32) (hd : Nat) (cD : ClassId) (fD : Nat → Option Nat) (hdo : Nat) (hra : Nat) (cR : ClassId) (df : Nat) (dn : Nat) (fr : Nat → Option Nat) (hv : Nat) (hpi : Nat) (cB : ClassId) (np : Nat) (fp : Nat → Int32) (au : Int32) (sm : Int32) (a1 : Int32) (r9 : Nat) (hdS : atN 8 fD a1 = some hdo) (hdn : dn ≤ 64) (hkS : atN dn fr (nI r9) = some hv) (ha1 : df ≤ r9) (ha2 : r9 < dn) : Met l y_K_revision k_K_revision ({ frames := 2, cells := 0, slots := 0, locals := 44 } : Room) (va_Pc [.ref h0, .int a1, .int (nI r9), .int 2] (pc_R (dC, dI) [(h0, .inr (0, [.ref hd, v_buffer, v_fetched, v_compared, v_maker, v_writer, .ref hp, .int i_madeDocuments, .int i_fetchedSteps])), (hp, .inr (4, [.int 0, .int p_i_going, .int p_i_writesLeft])), (hd, .inl (cD, 8, .inr (.inr (.inr (.inr (fD)))))), (hdo, .inr (5, [.ref hra, .int (nI df), .int (nI dn)])), (hra, .inl (cR, 64, .inr (.inr (.inr (.inr (fr)))))), (hv, .inr (6, [.ref hpi, .int au, .int sm])), (hpi, .inl (cB, np, .inl (fp)))] [(cD, .object R_D), (cR, .object R_V), (cB, .byte)])) (vp_Si (fun r => r = sm)) 0 0 (fun _ => False) := by
  refine Met.ofW (cc := prog_1_method_12_code) (maxL := 7) (ret := (some .int)) (by decide) rfl ?_
  intro p e s m args below meth c s₁ B hml hv
  obtain ⟨rfl, hP, hK, hN⟩ := hv
  have hx := B.exec
  have hb := B.bytes
  have hr := B.returns
  have hts := atoms_spec (ws := k_K_revision) B.pre
  have hw0 : ∀ w ∈ w0, w.before _ s = true := fun w h => hts w (List.mem_cons_of_mem _ h)
  have hown : s.vm.findClass R_K = some m.cls := findClass_of_methodNamed B.named
  have hlocks := B.notSynchronized
  have hP : va_P (dC, dI) vwCl [(h0, .inr (0, [.ref hd, v_buffer, v_fetched, v_compared, v_maker, v_writer, .ref hp, .int i_madeDocuments, .int i_fetchedSteps])), (hp, .inr (4, [.int 0, .int p_i_going, .int p_i_writesLeft])), (hd, .inl (cD, 8, .inr (.inr (.inr (.inr (fD)))))), (hdo, .inr (5, [.ref hra, .int (nI df), .int (nI dn)])), (hra, .inl (cR, 64, .inr (.inr (.inr (.inr (fr)))))), (hv, .inr (6, [.ref hpi, .int au, .int sm])), (hpi, .inl (cB, np, .inl (fp)))] s.heap := hP
  have hl := lv_entry ([.ref h0, .int a1, .int (nI r9), .int 2]) (n := 7) (Nat.le_of_ble_eq_true rfl)
  rw [lg_entry_eq]
  generalize (lg_sl ([.ref h0, .int a1, .int (nI r9), .int 2]) ++ List.replicate (7 - (lg_sl ([.ref h0, .int a1, .int (nI r9), .int 2])).length) Slot.unset).toArray = ls at hl ⊢
  have hl : lv_has ls 7 [(0, .ref h0), (1, .int a1), (2, .int (nI r9)), (3, .int 2)] := hl
  refine lv_aload_n hx hb d_K_revision_0 rfl (lv_at hl 0 rfl) ?_
  have hPc := hP.sub (ws' := [(h0, .inr (0, [.ref hd, v_buffer, v_fetched, v_compared, v_maker, v_writer, .ref hp, .int i_madeDocuments, .int i_fetchedSteps])), (hp, .inr (4, [.int 0, .int p_i_going, .int p_i_writesLeft]))]) [0, 1] rfl
  have hKc := hK.sub (tys' := []) [] rfl
  refine ps_v (va_runV (As := []) (rest := []) ⟨hx, hb, hml, hown, hw0⟩ (g_needPower l dC dI h0 (.ref hd) v_buffer v_fetched v_compared v_maker v_writer i_madeDocuments i_fetchedSteps hp p_i_going p_i_writesLeft) (cwV 0 hw0 (gd_Vm wm_322 wm_323 wm_324 wm_226 wm_325) rfl rfl rfl (by decide +kernel) ⟨by decide +kernel, by decide +kernel⟩) (prV_R hPc hKc hN (va_recv hKc hPc (ci := 0) (q0 := 0) rfl rfl)) rfl rfl hl.1 rfl (lv_room (Nat.le_of_ble_eq_true rfl)) d_K_revision_1 ⟨by decide +kernel, by decide +kernel⟩) ?_
  refine lv_aload_n hx hb d_K_revision_4 rfl (lv_at hl 0 rfl) ?_
  refine lv_iload_n hx hb d_K_revision_5 rfl (lv_at hl 1 rfl) ?_
  have hPc := hP.sub (ws' := [(h0, .inr (0, [.ref hd, v_buffer, v_fetched, v_compared, v_maker, v_writer, .ref hp, .int i_madeDocuments, .int i_fetchedSteps])), (hd, .inl (cD, 8, .inr (.inr (.inr (.inr ((fD)))))))]) [0, 2] rfl
  have hKc := hK.sub (tys' := [(cD, .object R_D)]) [0] rfl
  refine ps_q (va_runV (As := [.int a1]) (rest := []) ⟨hx, hb, hml, hown, hw0⟩ (g_docAt_S l dC dI h0 v_buffer v_fetched v_compared v_maker v_writer (.ref hp) i_madeDocuments i_fetchedSteps hd cD (fD) a1 hdo (by first | assumption | decide | omega)) (cwV 1 hw0 (gd_Vm wm_317 wm_318 wm_319 wm_226 wm_320) rfl rfl rfl (by decide +kernel) ⟨by decide +kernel, by decide +kernel⟩) (prV_R hPc hKc hN (va_recv hKc hPc (ci := 0) (q0 := 0) rfl rfl)) rfl rfl hl.1 rfl (lv_room (Nat.le_of_ble_eq_true rfl)) d_K_revision_6 ⟨by decide +kernel, by decide +kernel⟩) (fun r_1 hr_1 => ?_)
  obtain rfl : r_1 = some hdo := hr_1
  refine W.eq (g2 := F0 m 9 ls [.ref hdo]) rfl ?_
  refine lv_astore (lv' := [(4, .ref hdo), (0, .ref h0), (1, .int a1), (2, .int (nI r9)), (3, .int 2)]) hx hb d_K_revision_9 hl (by decide) rfl (fun ls hl => ?_)
  refine lv_aload_n hx hb d_K_revision_11 rfl (lv_at hl 1 rfl) ?_
  refine lv_iload_n hx hb d_K_revision_12 rfl (lv_at hl 2 rfl) ?_
  refine lv_iload_n hx hb d_K_revision_13 rfl (lv_at hl 3 rfl) ?_
  have hPc := hP.sub (ws' := [(h0, .inr (0, [.ref hd, v_buffer, v_fetched, v_compared, v_maker, v_writer, .ref hp, .int i_madeDocuments, .int i_fetchedSteps])), (hd, .inl (cD, 8, .inr (.inr (.inr (.inr ((fD))))))), (hdo, .inr (5, [.ref hra, .int (nI df), .int (nI dn)])), (hra, .inl (cR, 64, .inr (.inr (.inr (.inr ((fr)))))))]) [0, 2, 3, 4] rfl
  have hKc := hK.sub (tys' := [(cD, .object R_D), (cR, .object R_V)]) [0, 1] rfl
  refine ps_q (va_runV (As := [.int a1, .int (nI r9)]) (rest := []) ⟨hx, hb, hml, hown, hw0⟩ (g_keptR_S l dC dI h0 v_buffer v_fetched v_compared v_maker v_writer (.ref hp) i_madeDocuments i_fetchedSteps hd cD (fD) _ hra cR df dn (fr) a1 (nI r9) hv (by first | assumption | decide | omega) (by first | assumption | decide | omega) (by first | assumption | decide | omega)) (cwV 2 hw0 (gd_Vm wm_345 wm_346 wm_347 wm_226 wm_348) rfl rfl rfl (by decide +kernel) ⟨by decide +kernel, by decide +kernel⟩) (prV_R hPc hKc hN (va_recv hKc hPc (ci := 0) (q0 := 0) rfl rfl)) rfl rfl hl.1 rfl (lv_room (Nat.le_of_ble_eq_true rfl)) d_K_revision_14 ⟨by decide +kernel, by decide +kernel⟩) (fun r_2 hr_2 => ?_)
  obtain rfl : r_2 = some hv := hr_2
  refine W.eq (g2 := F0 m 17 ls [.ref hv]) rfl ?_
  refine lv_astore (lv' := [(5, .ref hv), (4, .ref hdo), (0, .ref h0), (1, .int a1), (2, .int (nI r9)), (3, .int 2)]) hx hb d_K_revision_17 hl (by decide) rfl (fun ls hl => ?_)
  refine lv_aload hx hb d_K_revision_19 (lv_at hl 1 rfl) ?_
  refine lv_ifnull hx hb d_K_revision_21 ?_
  refine lv_aload hx hb d_K_revision_24 (lv_at hl 1 rfl) ?_
  refine lv_iload_n hx hb d_K_revision_26 rfl (lv_at hl 4 rfl) ?_
  have hPc := hP.sub (ws' := [(hdo, .inr (5, [.ref hra, .int (nI df), .int (nI dn)])), (hra, .inl (cR, 64, .inr (.inr (.inr (.inr ((fr)))))))]) [3, 4] rfl
  have hKc := hK.sub (tys' := [(cR, .object R_V)]) [1] rfl
  refine ps_i (va_runV (As := [.int (nI r9)]) (rest := []) ⟨hx, hb, hml, hown, hw0⟩ (g_asked_T l dC dI hdo hra cR df dn (fr) r9 (by first | assumption | decide | omega) (by first | assumption | decide | omega) (by first | assumption | decide | omega)) (cwV 1 hw0 (gd_Vm wm_370 wm_371 wm_372 wm_233 wm_373) rfl rfl rfl (by decide +kernel) ⟨by decide +kernel, by decide +kernel⟩) (prV_R hPc hKc hN (va_recv hKc hPc (ci := 5) (q0 := 0) rfl rfl)) rfl rfl hl.1 rfl (lv_room (Nat.le_of_ble_eq_true rfl)) d_K_revision_27 ⟨by decide +kernel, by decide +kernel⟩) (fun r_3 hr_3 => ?_)
  obtain rfl : r_3 = 1 := hr_3
  refine lv_if_eq (tgt := 37) hx hb d_K_revision_30 (by decide) (fun h9 => absurd h9 (by decide +kernel)) (fun _ => ?_)
  refine lv_iconst (v := 1) hx hb d_K_revision_33 (by decide) ?_
  refine lv_goto (tgt := 38) hx hb d_K_revision_34 (by decide) ?_
  refine lv_istore (lv' := [(6, .int 1), (5, .ref hv), (4, .ref hdo), (0, .ref h0), (1, .int a1), (2, .int (nI r9)), (3, .int 2)]) hx hb d_K_revision_38 hl (by decide) rfl (fun ls hl => ?_)
  refine lv_aload hx hb d_K_revision_40 (lv_at hl 1 rfl) ?_
  refine lv_ifnull hx hb d_K_revision_42 ?_
  refine lv_iload hx hb d_K_revision_45 (lv_at hl 0 rfl) ?_
  refine lv_if_ne (tgt := 67) hx hb d_K_revision_47 (by decide) (fun _ => ?_) (fun h9 => absurd h9 (by decide +kernel))
  refine lv_iload_n hx hb d_K_revision_67 rfl (lv_at hl 6 rfl) ?_
  refine lv_tableIn (tgt := 109) hx hb d_K_revision_68 (by decide +kernel) (by decide +kernel) rfl (by decide) ?_
  refine lv_aload hx hb d_K_revision_109 (lv_at hl 1 rfl) ?_
  refine va_getN (D := (dC, dI)) (ci := 6) (v := .int sm) (C := R_V) (T := F_V) (N := 3) hx hb hw0 in_V hown hK hP 5 rfl rfl 2 (by decide) (va_Nw.use rfl (hN.1 (.fieldLinkNest R_K 160 "TextKeeper$Revision" "sum" "I" "TextKeeper") (List.mem_of_getElem? (i := 11) rfl))) (fun _ h9 => h9) rfl d_K_revision_111 ?_
  exact W.iret (v := sm) hx hb hr (fun t ht hW => ⟨sm, rfl, rfl, ht⟩) (fun q h => by cases h) d_K_revision_114
set_option maxHeartbeats 4000000 in
set_option maxRecDepth 100000 in
theorem x_rev_A (l : Launch) (hl9 : l.stackTraces = false) (dC : Nat → ClassId) (dI : Nat → Nat → Nat) (sz : Nat) (h0 : Nat) (v_buffer : Value) (v_fetched : Value) (v_compared : Value) (v_maker : Value) (v_writer : Value) (i_madeDocuments : Int32) (i_fetchedSteps : Int32) (hp : Nat) (p_i_going : Int32) (p_i_writesLeft : Int32) (hd : Nat) (cD : ClassId) (fD : Nat → Option Nat) (hdo : Nat) (hra : Nat) (cR : ClassId) (df : Nat) (dn : Nat) (fr : Nat → Option Nat) (hv : Nat) (hpi : Nat) (cB : ClassId) (np : Nat) (fp : Nat → Int32) (au : Int32) (sm : Int32) (a1 : Int32) (r9 : Nat) (a3 : Int32) (hdS : atN 8 fD a1 = some hdo) (hdn : dn ≤ 64) (hkS : atN dn fr (nI r9) = some hv) (ha1 : df ≤ r9) (ha2 : r9 < dn) (hw0x : ¬ a3 = 0) (hw1x : ¬ a3 = 1) (hw2x : ¬ a3 = 2) : vx_Met l y_K_revision k_K_revision ({ frames := 6, cells := 1, slots := 6, locals := 85 } : Room) (va_Pc [.ref h0, .int a1, .int (nI r9), .int a3] (fun U => pc_E (dC, dI) [(h0, .inr (0, [.ref hd, v_buffer, v_fetched, v_compared, v_maker, v_writer, .ref hp, .int i_madeDocuments, .int i_fetchedSteps])), (hp, .inr (4, [.int 0, .int p_i_going, .int p_i_writesLeft])), (hd, .inl (cD, 8, .inr (.inr (.inr (.inr (fD)))))), (hdo, .inr (5, [.ref hra, .int (nI df), .int (nI dn)])), (hra, .inl (cR, 64, .inr (.inr (.inr (.inr (fr)))))), (hv, .inr (6, [.ref hpi, .int au, .int sm])), (hpi, .inl (cB, np, .inl (fp)))] [(cD, .object R_D), (cR, .object R_V), (cB, .byte)] sz U ∧ tw_ok U)) (va_Qi (fun (_ : Int32) (_ : Unit) => False) (fun _ _ => True) (va_A [(h0, .inr (0, [.ref hd, v_buffer, v_fetched, v_compared, v_maker, v_writer, .ref hp, .int i_madeDocuments, .int i_fetchedSteps])), (hp, .inr (4, [.int 0, .int p_i_going, .int p_i_writesLeft])), (hd, .inl (cD, 8, .inr (.inr (.inr (.inr (fD)))))), (hdo, .inr (5, [.ref hra, .int (nI df), .int (nI dn)])), (hra, .inl (cR, 64, .inr (.inr (.inr (.inr (fr)))))), (hv, .inr (6, [.ref hpi, .int au, .int sm])), (hpi, .inl (cB, np, .inl (fp)))] sz)) (vx_X (fun _ : Unit => True) (fun E _ t => E = "java/lang/IllegalArgumentException" ∧ at_E (dC, dI) (va_A [(h0, .inr (0, [.ref hd, v_buffer, v_fetched, v_compared, v_maker, v_writer, .ref hp, .int i_madeDocuments, .int i_fetchedSteps])), (hp, .inr (4, [.int 0, .int p_i_going, .int p_i_writesLeft])), (hd, .inl (cD, 8, .inr (.inr (.inr (.inr (fD)))))), (hdo, .inr (5, [.ref hra, .int (nI df), .int (nI dn)])), (hra, .inl (cR, 64, .inr (.inr (.inr (.inr (fr)))))), (hv, .inr (6, [.ref hpi, .int au, .int sm])), (hpi, .inl (cB, np, .inl (fp)))] sz) [(h0, .inr (0, [.ref hd, v_buffer, v_fetched, v_compared, v_maker, v_writer, .ref hp, .int i_madeDocuments, .int i_fetchedSteps])), (hp, .inr (4, [.int 0, .int p_i_going, .int p_i_writesLeft])), (hd, .inl (cD, 8, .inr (.inr (.inr (.inr (fD)))))), (hdo, .inr (5, [.ref hra, .int (nI df), .int (nI dn)])), (hra, .inl (cR, 64, .inr (.inr (.inr (.inr (fr)))))), (hv, .inr (6, [.ref hpi, .int au, .int sm])), (hpi, .inl (cB, np, .inl (fp)))] [(cD, .object R_D), (cR, .object R_V), (cB, .byte)] t) (va_A [(h0, .inr (0, [.ref hd, v_buffer, v_fetched, v_compared, v_maker, v_writer, .ref hp, .int i_madeDocuments, .int i_fetchedSteps])), (hp, .inr (4, [.int 0, .int p_i_going, .int p_i_writesLeft])), (hd, .inl (cD, 8, .inr (.inr (.inr (.inr (fD)))))), (hdo, .inr (5, [.ref hra, .int (nI df), .int (nI dn)])), (hra, .inl (cR, 64, .inr (.inr (.inr (.inr (fr)))))), (hv, .inr (6, [.ref hpi, .int au, .int sm])), (hpi, .inl (cB, np, .inl (fp)))] sz)) 1 6 (va_A [(h0, .inr (0, [.ref hd, v_buffer, v_fetched, v_compared, v_maker, v_writer, .ref hp, .int i_madeDocuments, .int i_fetchedSteps])), (hp, .inr (4, [.int 0, .int p_i_going, .int p_i_writesLeft])), (hd, .inl (cD, 8, .inr (.inr (.inr (.inr (fD)))))), (hdo, .inr (5, [.ref hra, .int (nI df), .int (nI dn)])), (hra, .inl (cR, 64, .inr (.inr (.inr (.inr (fr)))))), (hv, .inr (6, [.ref hpi, .int au, .int sm])), (hpi, .inl (cB, np, .inl (fp)))] sz) := by
  refine vx_ofW (cc := prog_1_method_12_code) (maxL := 7) (ret := (some .int)) (by decide) rfl ?_
  intro p e s m args below meth c s₁ B hml htab hv
  obtain ⟨rfl, ⟨hsz, hP, hK, hD0, hN⟩, hTw⟩ := hv
  have hx := B.exec
  have hb := B.bytes
  have hr := B.returns
  have hts := atoms_spec (ws := k_K_revision) B.pre
  have hw0 : ∀ w ∈ w0, w.before _ s = true := fun w h => hts w (List.mem_cons_of_mem _ h)
  have hown : s.vm.findClass R_K = some m.cls := findClass_of_methodNamed B.named
  have hlocks := B.notSynchronized
  subst hsz
  have hD := hD0.self (sz := s.heap.size)
  have hTwA := tw_A hTw hP
  generalize hAe : va_A [(h0, .inr (0, [.ref hd, v_buffer, v_fetched, v_compared, v_maker, v_writer, .ref hp, .int i_madeDocuments, .int i_fetchedSteps])), (hp, .inr (4, [.int 0, .int p_i_going, .int p_i_writesLeft])), (hd, .inl (cD, 8, .inr (.inr (.inr (.inr (fD)))))), (hdo, .inr (5, [.ref hra, .int (nI df), .int (nI dn)])), (hra, .inl (cR, 64, .inr (.inr (.inr (.inr (fr)))))), (hv, .inr (6, [.ref hpi, .int au, .int sm])), (hpi, .inl (cB, np, .inl (fp)))] s.heap.size = A at hD hTwA ⊢
  have hA : ∀ q : Nat, s.heap.size ≤ q → A q := fun q h => by rw [← hAe]; exact Or.inr h
  have hS : va_S A s.heap s.heap [] := va_S.rf
  have hP : va_P (dC, dI) vwCl [(h0, .inr (0, [.ref hd, v_buffer, v_fetched, v_compared, v_maker, v_writer, .ref hp, .int i_madeDocuments, .int i_fetchedSteps])), (hp, .inr (4, [.int 0, .int p_i_going, .int p_i_writesLeft])), (hd, .inl (cD, 8, .inr (.inr (.inr (.inr (fD)))))), (hdo, .inr (5, [.ref hra, .int (nI df), .int (nI dn)])), (hra, .inl (cR, 64, .inr (.inr (.inr (.inr (fr)))))), (hv, .inr (6, [.ref hpi, .int au, .int sm])), (hpi, .inl (cB, np, .inl (fp)))] s.heap := hP
  have hl := lv_entry ([.ref h0, .int a1, .int (nI r9), .int a3]) (n := 7) (Nat.le_of_ble_eq_true rfl)
  rw [lg_entry_eq]
  generalize (lg_sl ([.ref h0, .int a1, .int (nI r9), .int a3]) ++ List.replicate (7 - (lg_sl ([.ref h0, .int a1, .int (nI r9), .int a3])).length) Slot.unset).toArray = ls at hl ⊢
  have hl : lv_has ls 7 [(0, .ref h0), (1, .int a1), (2, .int (nI r9)), (3, .int a3)] := hl
  refine lv_aload_n hx hb d_K_revision_0 rfl (lv_at hl 0 rfl) ?_
  have hPc := hP.sub (ws' := [(h0, .inr (0, [.ref hd, v_buffer, v_fetched, v_compared, v_maker, v_writer, .ref hp, .int i_madeDocuments, .int i_fetchedSteps])), (hp, .inr (4, [.int 0, .int p_i_going, .int p_i_writesLeft]))]) [0, 1] rfl
  have hKc := hK.sub (tys' := []) [] rfl
  refine ps_v (va_runV (As := []) (rest := []) ⟨hx, hb, hml, hown, hw0⟩ (g_needPower l dC dI h0 (.ref hd) v_buffer v_fetched v_compared v_maker v_writer i_madeDocuments i_fetchedSteps hp p_i_going p_i_writesLeft) (cwV 0 hw0 (gd_Vm wm_322 wm_323 wm_324 wm_226 wm_325) rfl rfl rfl (by decide +kernel) ⟨by decide +kernel, by decide +kernel⟩) (prV_R hPc hKc hN (va_recv hKc hPc (ci := 0) (q0 := 0) rfl rfl)) rfl rfl hl.1 rfl (lv_room (Nat.le_of_ble_eq_true rfl)) d_K_revision_1 ⟨by decide +kernel, by decide +kernel⟩) ?_
  refine lv_aload_n hx hb d_K_revision_4 rfl (lv_at hl 0 rfl) ?_
  refine lv_iload_n hx hb d_K_revision_5 rfl (lv_at hl 1 rfl) ?_
  have hPc := hP.sub (ws' := [(h0, .inr (0, [.ref hd, v_buffer, v_fetched, v_compared, v_maker, v_writer, .ref hp, .int i_madeDocuments, .int i_fetchedSteps])), (hd, .inl (cD, 8, .inr (.inr (.inr (.inr ((fD)))))))]) [0, 2] rfl
  have hKc := hK.sub (tys' := [(cD, .object R_D)]) [0] rfl
  refine ps_q (va_runV (As := [.int a1]) (rest := []) ⟨hx, hb, hml, hown, hw0⟩ (g_docAt_S l dC dI h0 v_buffer v_fetched v_compared v_maker v_writer (.ref hp) i_madeDocuments i_fetchedSteps hd cD (fD) a1 hdo (by first | assumption | decide | omega)) (cwV 1 hw0 (gd_Vm wm_317 wm_318 wm_319 wm_226 wm_320) rfl rfl rfl (by decide +kernel) ⟨by decide +kernel, by decide +kernel⟩) (prV_R hPc hKc hN (va_recv hKc hPc (ci := 0) (q0 := 0) rfl rfl)) rfl rfl hl.1 rfl (lv_room (Nat.le_of_ble_eq_true rfl)) d_K_revision_6 ⟨by decide +kernel, by decide +kernel⟩) (fun r_1 hr_1 => ?_)
  obtain rfl : r_1 = some hdo := hr_1
  refine W.eq (g2 := F0 m 9 ls [.ref hdo]) rfl ?_
  refine lv_astore (lv' := [(4, .ref hdo), (0, .ref h0), (1, .int a1), (2, .int (nI r9)), (3, .int a3)]) hx hb d_K_revision_9 hl (by decide) rfl (fun ls hl => ?_)
  refine lv_aload_n hx hb d_K_revision_11 rfl (lv_at hl 1 rfl) ?_
  refine lv_iload_n hx hb d_K_revision_12 rfl (lv_at hl 2 rfl) ?_
  refine lv_iload_n hx hb d_K_revision_13 rfl (lv_at hl 3 rfl) ?_
  have hPc := hP.sub (ws' := [(h0, .inr (0, [.ref hd, v_buffer, v_fetched, v_compared, v_maker, v_writer, .ref hp, .int i_madeDocuments, .int i_fetchedSteps])), (hd, .inl (cD, 8, .inr (.inr (.inr (.inr ((fD))))))), (hdo, .inr (5, [.ref hra, .int (nI df), .int (nI dn)])), (hra, .inl (cR, 64, .inr (.inr (.inr (.inr ((fr)))))))]) [0, 2, 3, 4] rfl
  have hKc := hK.sub (tys' := [(cD, .object R_D), (cR, .object R_V)]) [0, 1] rfl
  refine ps_q (va_runV (As := [.int a1, .int (nI r9)]) (rest := []) ⟨hx, hb, hml, hown, hw0⟩ (g_keptR_S l dC dI h0 v_buffer v_fetched v_compared v_maker v_writer (.ref hp) i_madeDocuments i_fetchedSteps hd cD (fD) _ hra cR df dn (fr) a1 (nI r9) hv (by first | assumption | decide | omega) (by first | assumption | decide | omega) (by first | assumption | decide | omega)) (cwV 2 hw0 (gd_Vm wm_345 wm_346 wm_347 wm_226 wm_348) rfl rfl rfl (by decide +kernel) ⟨by decide +kernel, by decide +kernel⟩) (prV_R hPc hKc hN (va_recv hKc hPc (ci := 0) (q0 := 0) rfl rfl)) rfl rfl hl.1 rfl (lv_room (Nat.le_of_ble_eq_true rfl)) d_K_revision_14 ⟨by decide +kernel, by decide +kernel⟩) (fun r_2 hr_2 => ?_)
  obtain rfl : r_2 = some hv := hr_2
  refine W.eq (g2 := F0 m 17 ls [.ref hv]) rfl ?_
  refine lv_astore (lv' := [(5, .ref hv), (4, .ref hdo), (0, .ref h0), (1, .int a1), (2, .int (nI r9)), (3, .int a3)]) hx hb d_K_revision_17 hl (by decide) rfl (fun ls hl => ?_)
  refine lv_aload hx hb d_K_revision_19 (lv_at hl 1 rfl) ?_
  refine lv_ifnull hx hb d_K_revision_21 ?_
  refine lv_aload hx hb d_K_revision_24 (lv_at hl 1 rfl) ?_
  refine lv_iload_n hx hb d_K_revision_26 rfl (lv_at hl 4 rfl) ?_
  have hPc := hP.sub (ws' := [(hdo, .inr (5, [.ref hra, .int (nI df), .int (nI dn)])), (hra, .inl (cR, 64, .inr (.inr (.inr (.inr ((fr)))))))]) [3, 4] rfl
  have hKc := hK.sub (tys' := [(cR, .object R_V)]) [1] rfl
  refine ps_i (va_runV (As := [.int (nI r9)]) (rest := []) ⟨hx, hb, hml, hown, hw0⟩ (g_asked_T l dC dI hdo hra cR df dn (fr) r9 (by first | assumption | decide | omega) (by first | assumption | decide | omega) (by first | assumption | decide | omega)) (cwV 1 hw0 (gd_Vm wm_370 wm_371 wm_372 wm_233 wm_373) rfl rfl rfl (by decide +kernel) ⟨by decide +kernel, by decide +kernel⟩) (prV_R hPc hKc hN (va_recv hKc hPc (ci := 5) (q0 := 0) rfl rfl)) rfl rfl hl.1 rfl (lv_room (Nat.le_of_ble_eq_true rfl)) d_K_revision_27 ⟨by decide +kernel, by decide +kernel⟩) (fun r_3 hr_3 => ?_)
  obtain rfl : r_3 = 1 := hr_3
  refine lv_if_eq (tgt := 37) hx hb d_K_revision_30 (by decide) (fun h9 => absurd h9 (by decide +kernel)) (fun _ => ?_)
  refine lv_iconst (v := 1) hx hb d_K_revision_33 (by decide) ?_
  refine lv_goto (tgt := 38) hx hb d_K_revision_34 (by decide) ?_
  refine lv_istore (lv' := [(6, .int 1), (5, .ref hv), (4, .ref hdo), (0, .ref h0), (1, .int a1), (2, .int (nI r9)), (3, .int a3)]) hx hb d_K_revision_38 hl (by decide) rfl (fun ls hl => ?_)
  refine lv_aload hx hb d_K_revision_40 (lv_at hl 1 rfl) ?_
  refine lv_ifnull hx hb d_K_revision_42 ?_
  refine lv_iload hx hb d_K_revision_45 (lv_at hl 0 rfl) ?_
  refine lv_if_ne (tgt := 67) hx hb d_K_revision_47 (by decide) (fun _ => ?_) (fun h9 => absurd h9 (by decide +kernel))
  refine lv_iload_n hx hb d_K_revision_67 rfl (lv_at hl 6 rfl) ?_
  refine lv_tableOut (tgt := 115) hx hb d_K_revision_68 (tab_d hw0x hw1x hw2x) (by decide) ?_
  have hP9 := hP.sub (ws' := [(h0, .inr (0, [.ref hd, v_buffer, v_fetched, v_compared, v_maker, v_writer, .ref hp, .int i_madeDocuments, .int i_fetchedSteps])), (hp, .inr (4, [.int 0, .int p_i_going, .int p_i_writesLeft])), (hd, .inl (cD, 8, .inr (.inr (.inr (.inr (fD)))))), (hdo, .inr (5, [.ref hra, .int (nI df), .int (nI dn)])), (hra, .inl (cR, 64, .inr (.inr (.inr (.inr (fr)))))), (hv, .inr (6, [.ref hpi, .int au, .int sm])), (hpi, .inl (cB, np, .inl (fp)))]) [0, 1, 2, 3, 4, 5, 6] rfl
  have hD9 := hD.sub (ws' := [(h0, .inr (0, [.ref hd, v_buffer, v_fetched, v_compared, v_maker, v_writer, .ref hp, .int i_madeDocuments, .int i_fetchedSteps])), (hp, .inr (4, [.int 0, .int p_i_going, .int p_i_writesLeft])), (hd, .inl (cD, 8, .inr (.inr (.inr (.inr (fD)))))), (hdo, .inr (5, [.ref hra, .int (nI df), .int (nI dn)])), (hra, .inl (cR, 64, .inr (.inr (.inr (.inr (fr)))))), (hv, .inr (6, [.ref hpi, .int au, .int sm])), (hpi, .inl (cB, np, .inl (fp)))]) [0, 1, 2, 3, 4, 5, 6] (by decide) rfl
  have hK9 := hK.sub (tys' := [(cD, .object R_D), (cR, .object R_V), (cB, .byte)]) [0, 1, 2] rfl
  have tw_at : ∀ w ∈ vx_at0 "TextKeeper" 148 "java/lang/IllegalArgumentException" ["java/lang/RuntimeException", "java/lang/Exception"], w.before _ s = true := vx_hat (fun w h => hw0 w (twA_1 w h)) twA_2 (fun w h => va_Nw.use (nw0_tab w h) (hN.1 w h))
  exact vx_throw0 (names := ["java/lang/RuntimeException", "java/lang/Exception"]) (ik := 146) (ic := 148) (A := A) hx hb hl9 hown (by decide +kernel) (by decide +kernel) (hw0 (.classLink "TextKeeper" 146 "java/lang/IllegalArgumentException") wm_439) (hw0 (.initialized "java/lang/IllegalArgumentException") wm_440) tw_at twA_g hTwA.1 hTwA.2 hS (by rw [hml]; exact hl.1) d_K_revision_115 d_K_revision_118 d_K_revision_119 d_K_revision_122 (fun x hx => (htab x hx).elim) (by decide +kernel) (by decide +kernel) (by decide +kernel) (by decide +kernel) hlocks (fun t hvm hz hk => ⟨(), trivial, ⟨rfl, hP9.kept (fun k q hq => hk _ ((hP9 k q hq).lt)), va_K.moved hvm hK9, hD9⟩, Nat.le_trans hS.1 hz, fun q h hn => (hk q (Nat.lt_of_lt_of_le h hS.1)).trans (hS.2.1 q h hn)⟩) hS.2.2 (by decide +kernel) (by decide +kernel)
end
section
abbrev KX : Type := (Nat) × (Nat) × (Nat) × (Nat) × (Nat) × (Nat) × (Nat) × (Nat) × (Nat) × (Nat) × (Nat) × (Nat) × (Nat) × (Nat) × (Nat) × (Int32) × (Int32) × (Int32) × (Int32) × (Int32) × (Int32) × (Value) × (Nat) × (Nat) × (Nat) × (Nat) × (Nat) × (Nat) × (Nat → Int32) × (Nat → Int32) × (Nat → Int32) × (Nat → Int32) × (Nat → Int32) × (Nat → Int32)
abbrev KX.hd (x : KX) : Nat := x.1
abbrev KX.hb1 (x : KX) : Nat := x.2.1
abbrev KX.hy (x : KX) : Nat := x.2.2.1
abbrev KX.hf (x : KX) : Nat := x.2.2.2.1
abbrev KX.hfy (x : KX) : Nat := x.2.2.2.2.1
abbrev KX.hc (x : KX) : Nat := x.2.2.2.2.2.1
abbrev KX.hcy (x : KX) : Nat := x.2.2.2.2.2.2.1
abbrev KX.hmk (x : KX) : Nat := x.2.2.2.2.2.2.2.1
abbrev KX.hta (x : KX) : Nat := x.2.2.2.2.2.2.2.2.1
abbrev KX.hty (x : KX) : Nat := x.2.2.2.2.2.2.2.2.2.1
abbrev KX.hba (x : KX) : Nat := x.2.2.2.2.2.2.2.2.2.2.1
abbrev KX.hby (x : KX) : Nat := x.2.2.2.2.2.2.2.2.2.2.2.1
abbrev KX.hwr (x : KX) : Nat := x.2.2.2.2.2.2.2.2.2.2.2.2.1
abbrev KX.hrw (x : KX) : Nat := x.2.2.2.2.2.2.2.2.2.2.2.2.2.1
abbrev KX.hp (x : KX) : Nat := x.2.2.2.2.2.2.2.2.2.2.2.2.2.2.1
abbrev KX.dw (x : KX) : Int32 := x.2.2.2.2.2.2.2.2.2.2.2.2.2.2.2.1
abbrev KX.gi (x : KX) : Int32 := x.2.2.2.2.2.2.2.2.2.2.2.2.2.2.2.2.1
abbrev KX.wl (x : KX) : Int32 := x.2.2.2.2.2.2.2.2.2.2.2.2.2.2.2.2.2.1
abbrev KX.md (x : KX) : Int32 := x.2.2.2.2.2.2.2.2.2.2.2.2.2.2.2.2.2.2.1
abbrev KX.fs (x : KX) : Int32 := x.2.2.2.2.2.2.2.2.2.2.2.2.2.2.2.2.2.2.2.1
abbrev KX.a0 (x : KX) : Int32 := x.2.2.2.2.2.2.2.2.2.2.2.2.2.2.2.2.2.2.2.2.1
abbrev KX.vp (x : KX) : Value := x.2.2.2.2.2.2.2.2.2.2.2.2.2.2.2.2.2.2.2.2.2.1
abbrev KX.k (x : KX) : Nat := x.2.2.2.2.2.2.2.2.2.2.2.2.2.2.2.2.2.2.2.2.2.2.1
abbrev KX.kb (x : KX) : Nat := x.2.2.2.2.2.2.2.2.2.2.2.2.2.2.2.2.2.2.2.2.2.2.2.1
abbrev KX.q (x : KX) : Nat := x.2.2.2.2.2.2.2.2.2.2.2.2.2.2.2.2.2.2.2.2.2.2.2.2.1
abbrev KX.ku (x : KX) : Nat := x.2.2.2.2.2.2.2.2.2.2.2.2.2.2.2.2.2.2.2.2.2.2.2.2.2.1
abbrev KX.kf (x : KX) : Nat := x.2.2.2.2.2.2.2.2.2.2.2.2.2.2.2.2.2.2.2.2.2.2.2.2.2.2.1
abbrev KX.kc (x : KX) : Nat := x.2.2.2.2.2.2.2.2.2.2.2.2.2.2.2.2.2.2.2.2.2.2.2.2.2.2.2.1
abbrev KX.f (x : KX) : Nat → Int32 := x.2.2.2.2.2.2.2.2.2.2.2.2.2.2.2.2.2.2.2.2.2.2.2.2.2.2.2.2.1
abbrev KX.fb (x : KX) : Nat → Int32 := x.2.2.2.2.2.2.2.2.2.2.2.2.2.2.2.2.2.2.2.2.2.2.2.2.2.2.2.2.2.1
abbrev KX.g (x : KX) : Nat → Int32 := x.2.2.2.2.2.2.2.2.2.2.2.2.2.2.2.2.2.2.2.2.2.2.2.2.2.2.2.2.2.2.1
abbrev KX.fu (x : KX) : Nat → Int32 := x.2.2.2.2.2.2.2.2.2.2.2.2.2.2.2.2.2.2.2.2.2.2.2.2.2.2.2.2.2.2.2.1
abbrev KX.ff (x : KX) : Nat → Int32 := x.2.2.2.2.2.2.2.2.2.2.2.2.2.2.2.2.2.2.2.2.2.2.2.2.2.2.2.2.2.2.2.2.1
abbrev KX.fc (x : KX) : Nat → Int32 := x.2.2.2.2.2.2.2.2.2.2.2.2.2.2.2.2.2.2.2.2.2.2.2.2.2.2.2.2.2.2.2.2.2
def kW (h0 : Nat) (cB cD cR : ClassId) (x : KX) (ds : Nat → Option Dc) : va_W := ([(h0, .inr (0, [.ref x.hd, .ref x.hb1, .ref x.hf, .ref x.hc, .ref x.hmk, .ref x.hwr, .ref x.hp, .int x.md, .int x.fs])), (x.hp, .inr (4, [.int x.dw, .int x.gi, .int x.wl])), (x.hd, .inl (cD, 8, .inr (.inr (.inr (.inr ((dsA ds))))))), (x.hmk, .inr (2, [.ref x.hba, .ref x.hta, x.vp, .int x.a0])), (x.hta, .inr (1, [.ref x.hty, .int (nI x.k)])), (x.hty, .inl (cB, 256, .inl (x.f))), (x.hba, .inr (1, [.ref x.hby, .int (nI x.kb)])), (x.hby, .inl (cB, 256, .inl (x.fb))), (x.hwr, .inr (3, [.ref x.hrw, .int (nI x.q)])), (x.hrw, .inl (cB, 512, .inl (x.g))), (x.hb1, .inr (1, [.ref x.hy, .int (nI x.ku)])), (x.hy, .inl (cB, 256, .inl (x.fu))), (x.hf, .inr (1, [.ref x.hfy, .int (nI x.kf)])), (x.hfy, .inl (cB, 256, .inl (x.ff))), (x.hc, .inr (1, [.ref x.hcy, .int (nI x.kc)])), (x.hcy, .inl (cB, 256, .inl (x.fc)))] : va_W) ++ pW cB cR ds
abbrev kT (cB cD cR : ClassId) : List (ClassId × FieldType) := [(cB, .byte), (cD, .object R_D), (cR, .object R_V)]
def kOk (σ : Sg) (x : KX) (ds : Nat → Option Dc) : Prop := (x.dw = bI σ.down) ∧ (σ.down = false → x.gi = bI σ.go.isSome ∧ ∀ w, σ.go = some w → x.wl = nI w) ∧ (x.md = nI σ.nd) ∧ (x.fs = σ.stp) ∧ (σ.ds = dsM ds) ∧ (dsOk ds) ∧ (∀ i d j, ds i = some d → d.first ≤ j → j < d.count → ∃ r, d.rv j = some r) ∧ (tx σ.buf x.ku x.fu ∧ x.ku ≤ 256) ∧ (tx σ.fet x.kf x.ff ∧ x.kf ≤ 256) ∧ (∃ T, tx T x.k x.f ∧ x.k ≤ 256) ∧ (∃ T, tx T x.kb x.fb ∧ x.kb ≤ 256) ∧ (∃ T, tx T x.kc x.fc ∧ x.kc ≤ 256)
theorem kOk.dw {σ : Sg} {x : KX} {ds : Nat → Option Dc} (h : kOk σ x ds) : x.dw = bI σ.down := h.1
theorem kOk.gi {σ : Sg} {x : KX} {ds : Nat → Option Dc} (h : kOk σ x ds) : σ.down = false → x.gi = bI σ.go.isSome ∧ ∀ w, σ.go = some w → x.wl = nI w := h.2.1
theorem kOk.md {σ : Sg} {x : KX} {ds : Nat → Option Dc} (h : kOk σ x ds) : x.md = nI σ.nd := h.2.2.1
theorem kOk.fs {σ : Sg} {x : KX} {ds : Nat → Option Dc} (h : kOk σ x ds) : x.fs = σ.stp := h.2.2.2.1
theorem kOk.ds {σ : Sg} {x : KX} {ds : Nat → Option Dc} (h : kOk σ x ds) : σ.ds = dsM ds := h.2.2.2.2.1
theorem kOk.ok {σ : Sg} {x : KX} {ds : Nat → Option Dc} (h : kOk σ x ds) : dsOk ds := h.2.2.2.2.2.1
theorem kOk.kp {σ : Sg} {x : KX} {ds : Nat → Option Dc} (h : kOk σ x ds) : ∀ i d j, ds i = some d → d.first ≤ j → j < d.count → ∃ r, d.rv j = some r := h.2.2.2.2.2.2.1
theorem kOk.bu {σ : Sg} {x : KX} {ds : Nat → Option Dc} (h : kOk σ x ds) : tx σ.buf x.ku x.fu ∧ x.ku ≤ 256 := h.2.2.2.2.2.2.2.1
theorem kOk.fe {σ : Sg} {x : KX} {ds : Nat → Option Dc} (h : kOk σ x ds) : tx σ.fet x.kf x.ff ∧ x.kf ≤ 256 := h.2.2.2.2.2.2.2.2.1
theorem kOk.mt {σ : Sg} {x : KX} {ds : Nat → Option Dc} (h : kOk σ x ds) : ∃ T, tx T x.k x.f ∧ x.k ≤ 256 := h.2.2.2.2.2.2.2.2.2.1
theorem kOk.mb {σ : Sg} {x : KX} {ds : Nat → Option Dc} (h : kOk σ x ds) : ∃ T, tx T x.kb x.fb ∧ x.kb ≤ 256 := h.2.2.2.2.2.2.2.2.2.2.1
theorem kOk.cm {σ : Sg} {x : KX} {ds : Nat → Option Dc} (h : kOk σ x ds) : ∃ T, tx T x.kc x.fc ∧ x.kc ≤ 256 := h.2.2.2.2.2.2.2.2.2.2.2
theorem kOk.mk {σ : Sg} {x : KX} {ds : Nat → Option Dc} (h0 : x.dw = bI σ.down) (h1 : σ.down = false → x.gi = bI σ.go.isSome ∧ ∀ w, σ.go = some w → x.wl = nI w) (h2 : x.md = nI σ.nd) (h3 : x.fs = σ.stp) (h4 : σ.ds = dsM ds) (h5 : dsOk ds) (h6 : ∀ i d j, ds i = some d → d.first ≤ j → j < d.count → ∃ r, d.rv j = some r) (h7 : tx σ.buf x.ku x.fu ∧ x.ku ≤ 256) (h8 : tx σ.fet x.kf x.ff ∧ x.kf ≤ 256) (h9 : ∃ T, tx T x.k x.f ∧ x.k ≤ 256) (h10 : ∃ T, tx T x.kb x.fb ∧ x.kb ≤ 256) (h11 : ∃ T, tx T x.kc x.fc ∧ x.kc ≤ 256) : kOk σ x ds := ⟨h0, h1, h2, h3, h4, h5, h6, h7, h8, h9, h10, h11⟩
end
section
theorem sub_z {α : Type} {S L : List α} (h : S.Sublist L) : ∃ z, L.Perm (S ++ z) := by
  induction h with
  | slnil => exact ⟨[], List.Perm.refl _⟩
  | cons a _ ih =>
    obtain ⟨z, hz⟩ := ih
    exact ⟨a :: z, (hz.cons a).trans List.perm_middle.symm⟩
  | cons_cons a _ ih =>
    obtain ⟨z, hz⟩ := ih
    exact ⟨z, hz.cons a⟩
theorem pick_map {α : Type} (l : List α) : (List.range l.length).map (fun i => l[i]?) = l.map some := by
  apply List.ext_getElem?
  intro i
  rcases Nat.lt_or_ge i l.length with h | h
  · simp [List.getElem?_map, List.getElem?_range h, List.getElem?_eq_getElem h]
  · simp [List.getElem?_map, List.getElem?_eq_none, h]
theorem pick {α : Type} {l l' : List α} (is : List Nat) (n : Nat) (hl : l.length = n) (hn : is.isPerm (List.range n) = true) (hs : is.map (fun i => l[i]?) = l'.map some) : l.Perm l' := by
  have h1 := (List.isPerm_iff.mp hn).map (fun i => l[i]?)
  rw [hs, ← hl, pick_map] at h1
  have h2 := h1.filterMap id
  simp at h2
  exact h2.symm
theorem va_P_iff {D : va_G} {cl : List vw_C} {ws : va_W} {H : Heap} : va_P D cl ws H ↔ ∀ q ∈ ws, va_at D cl q H := by
  constructor
  · intro h q hq
    obtain ⟨i, hi⟩ := List.getElem?_of_mem hq
    exact h i q hi
  · intro h k q hk
    exact h q (List.mem_of_getElem? hk)
theorem va_A_iff {ws : va_W} {sz q : Nat} : va_A ws sz q ↔ (∃ e, (q, e) ∈ ws) ∨ sz ≤ q := by
  constructor
  · intro h
    rcases h with ⟨k, e, hk⟩ | h
    · exact Or.inl ⟨e, List.mem_of_getElem? hk⟩
    · exact Or.inr h
  · intro h
    rcases h with ⟨e, he⟩ | h
    · obtain ⟨k, hk⟩ := List.getElem?_of_mem he
      exact Or.inl ⟨k, e, hk⟩
    · exact Or.inr h
theorem va_A_up {ws wr W : va_W} {sz q : Nat} (hp : W.Perm (ws ++ wr)) (h : va_A ws sz q) : va_A W sz q := by
  rw [va_A_iff] at h ⊢
  rcases h with ⟨e, he⟩ | h
  · exact Or.inl ⟨e, hp.mem_iff.mpr (List.mem_append_left _ he)⟩
  · exact Or.inr h
theorem fr_off {D : va_G} {ws wr : va_W} {H : Heap} (hP : va_P D vwCl (ws ++ wr) H) (hD : va_D (fun _ => True) (ws ++ wr)) {q : Nat × va_E} (hq : q ∈ wr) : ¬ va_A ws H.size q.1 := by
  rw [va_P_iff] at hP
  rw [va_D_iff] at hD
  intro h
  rw [va_A_iff] at h
  rcases h with ⟨e, he⟩ | h
  · exact (List.pairwise_append.mp hD.1).2.2 _ he _ hq rfl
  · have := (hP q (List.mem_append_right _ hq)).lt
    omega
theorem fr_in {D : va_G} {W ws wr : va_W} {tys tys' : List (ClassId × FieldType)} {sz : Nat} {U : State} (is : List Nat) (h : pc_E D W tys' sz U) (hp : W.Perm (ws ++ wr)) (ht : is.filterMap (fun i => tys'[i]?) = tys) : pc_E D ws tys sz U :=
  ⟨h.1, (h.2.1.perm hp).left, h.2.2.1.sub is ht, (h.2.2.2.1.perm hp).left, h.2.2.2.2⟩
theorem fr_wld {D : va_G} {W ws wr ws2 W2 : va_W} {H H1 : Heap} {A : Nat → Prop} (hA : ∀ q : Nat, H.size ≤ q → A q) (hP : va_P D vwCl W H) (hD : va_D A W) (hp : W.Perm (ws ++ wr)) (hF : ∀ q : Nat, q < H.size → ¬ va_A ws H.size q → H1[q]? = H[q]?) (hP1 : va_P D vwCl ws2 H1) (hD1 : va_D (va_A ws H.size) ws2) (hz : ∃ z, (ws2 ++ wr).Perm (W2 ++ z)) : va_P D vwCl W2 H1 ∧ va_D A W2 := by
  have hP := hP.perm hp
  have hD := hD.perm hp
  have hoff := fun {q : Nat × va_E} (hq : q ∈ wr) => fr_off hP (hD.weaken (fun _ _ _ _ => trivial)) hq
  obtain ⟨z, hz⟩ := hz
  have hP2 : va_P D vwCl (ws2 ++ wr) H1 := by
    rw [va_P_iff] at hP hP1 ⊢
    intro q hq
    rcases List.mem_append.mp hq with hq | hq
    · exact hP1 q hq
    · have h9 := hP q (List.mem_append_right _ hq)
      exact h9.kept (hF _ h9.lt (hoff hq))
  have hD2 : va_D A (ws2 ++ wr) := by
    rw [va_D_iff] at hD hD1 ⊢
    have hap := List.pairwise_append.mp hD.1
    refine ⟨List.pairwise_append.mpr ⟨hD1.1, hap.2.1, fun x hx y hy e => ?_⟩, fun q hq => ?_⟩
    · exact hoff hy (e ▸ hD1.2 x hx)
    · rcases List.mem_append.mp hq with hq | hq
      · have h9 := hD1.2 q hq
        rw [va_A_iff] at h9
        rcases h9 with ⟨e, he⟩ | h9
        · exact hD.2 (q.1, e) (List.mem_append_left _ he)
        · exact hA _ h9
      · exact hD.2 q (List.mem_append_right _ hq)
  exact ⟨(hP2.perm hz).left, (hD2.perm hz).left⟩
theorem fr_out {D : va_G} {W ws wr ws2 W2 : va_W} {tys tys' : List (ClassId × FieldType)} {sz : Nat} {U t : State} (h : pc_E D W tys' sz U) (hp : W.Perm (ws ++ wr)) (hvm : U.vm.Alike t.vm) (hF : va_F (va_A ws sz) U t) (hat : at_E D (va_A ws sz) ws2 tys t) (hz : ∃ z, (ws2 ++ wr).Perm (W2 ++ z)) : at_E D (va_A W sz) W2 tys' t := by
  obtain ⟨rfl, h1, h2, h3, -⟩ := h
  obtain ⟨p1, -, d1⟩ := hat
  obtain ⟨a, b⟩ := fr_wld (A := va_A W U.heap.size) (fun q hq => va_A_iff.mpr (Or.inr hq)) h1 (va_D_iff.mpr ⟨(va_D_iff.mp h3).1, fun q hq => va_A_iff.mpr (Or.inl ⟨q.2, hq⟩)⟩) hp hF.2 p1 d1 hz
  exact ⟨a, va_K.moved hvm h2, b⟩
theorem va_F.up {ws wr W : va_W} {sz : Nat} {st t : State} (hp : W.Perm (ws ++ wr)) (h : va_F (va_A ws sz) st t) : va_F (va_A W sz) st t := ⟨h.1, fun q hq hn => h.2 q hq (fun z => hn (va_A_up hp z))⟩
theorem k_room {s : State} {pl : Platform} {r q : Room} (h : s.hasRoom pl q = true) (hf : r.frames ≤ q.frames) (hl : r.locals ≤ q.locals) (hc : r.cells ≤ q.cells) (hs : r.slots ≤ q.slots) : s.hasRoom pl r = true := by
  unfold State.hasRoom at h ⊢
  simp only [Bool.and_eq_true, decide_eq_true_eq] at h ⊢
  obtain ⟨⟨⟨⟨h1, h2⟩, h3⟩, h4⟩, h5⟩ := h
  have h6 := h2.1
  have h7 := h2.2.1
  have h8 := h2.2.2.1
  have h9 := h2.2.2.2.1
  refine ⟨⟨⟨⟨?_, ?_, ?_, ?_, ?_, h2.2.2.2.2⟩, ?_⟩, ?_⟩, h5⟩
  all_goals omega
theorem k_spec {l : Launch} {x : MethodName} {ts : List Cond} {r q : Room} {P : Array Value → State → Prop} {K : Program → Env → List Frame → State → Array Value → Prop} {Q : Array Value → State → Outcome → State → Prop} (h : MetFree l x (headSpec ts r) P K Q) (hf : r.frames ≤ q.frames) (hl : r.locals ≤ q.locals) (hc : r.cells ≤ q.cells) (hs : r.slots ≤ q.slots) : MetFree l x (headSpec ts q) P K Q := by
  intro p e ha hcs hk s m args below hfr happ hP hK
  refine h p e ha hcs hk s m args below hfr ?_ hP hK
  obtain ⟨a1, a2, a3, a4, a5, a6, a7, a8⟩ := (Spec.appliesLoose_iff hfr).mp happ
  exact (Spec.appliesLoose_iff hfr).mpr ⟨a1, a2, a3, a4, a5, a6, k_room a7 hf hl hc hs, a8⟩
abbrev kRm : Room := { frames := 8, cells := 2, slots := 264, locals := 150 }
def kFr (D : va_G) (W ws wr : va_W) (tys' : List (ClassId × FieldType)) (sz : Nat) (t : State) : Prop := ∀ (ws2 W2 : va_W) (tys2 : List (ClassId × FieldType)), at_E D (va_A ws sz) ws2 tys2 t → (∃ z, (ws2 ++ wr).Perm (W2 ++ z)) → at_E D (va_A W sz) W2 tys' t
theorem kRet {l : Launch} {y : MethodName} {kk : List Cond} {fr ce sl lo mc ms sz : Nat} {D : va_G} {av : List Value} {W ws wr : va_W} {tys tys' : List (ClassId × FieldType)} {post : Int32 → Unit → Prop} {Bt : Unit → State → Prop} {QR : Int32 → Prop} {QB : State → Prop} {XC : String → State → State → Prop}
    (hM : Met l y kk ({ frames := fr, cells := ce, slots := sl, locals := lo } : Room) (va_Pc av (pc_E D ws tys sz)) (va_Qi post Bt (va_A ws sz)) mc ms (va_A ws sz)) (hr : fr ≤ 8 ∧ ce ≤ 2 ∧ sl ≤ 264 ∧ lo ≤ 150 ∧ mc ≤ 2 ∧ ms ≤ 264) (hp : W.Perm (ws ++ wr)) (is : List Nat) (ht : is.filterMap (fun i => tys'[i]?) = tys)
    (hpost : ∀ r, post r () → QR r) (hB : ∀ t, Bt () t → kFr D W ws wr tys' sz t → QB t) :
    vx_Met l y kk kRm (va_Pc av (fun U => pc_E D W tys' sz U ∧ tw_ok U)) (va_Qi (fun r (_ : Unit) => QR r) (fun _ t => QB t) (va_A W sz)) XC 2 264 (va_A W sz) := by
  have h1 := k_spec (q := kRm) hM hr.1 hr.2.2.2.1 hr.2.1 hr.2.2.1
  intro p e ha hcs hk s m args below hfr happ hP hK
  obtain ⟨hav, hpc, -⟩ := hP
  obtain ⟨n, o, g1, g2, g3, ⟨⟨r, u, ho, hpo, hb⟩, hF⟩, L, hfe, hL⟩ := h1 p e ha hcs hk s m args below hfr happ ⟨hav, fr_in is hpc hp ht⟩ trivial
  refine ⟨n, o, g1, g2, g3, Or.inl ⟨⟨⟨r, (), ho, hpost r hpo, hB _ hb (fun ws2 W2 tys2 hat hz => fr_out hpc hp hfe.2.1.alike hF hat hz)⟩, hF.up hp⟩, L, ⟨hfe.1, hfe.2.1, hfe.2.2.mono hr.2.2.2.2.1 hr.2.2.2.2.2⟩, fun q hq => va_A_up hp (hL q hq)⟩⟩
theorem kPur {l : Launch} {y : MethodName} {kk : List Cond} {fr ce sl lo sz : Nat} {D : va_G} {av : List Value} {W ws wr : va_W} {tys tys' : List (ClassId × FieldType)} {post : Int32 → Prop} {QR : Int32 → Prop} {QB : State → Prop} {XC : String → State → State → Prop}
    (hM : Met l y kk ({ frames := fr, cells := ce, slots := sl, locals := lo } : Room) (va_Pc av (pc_R D ws tys)) (vp_Si post) 0 0 (fun _ => False)) (hr : fr ≤ 8 ∧ ce ≤ 2 ∧ sl ≤ 264 ∧ lo ≤ 150) (hp : W.Perm (ws ++ wr)) (is : List Nat) (ht : is.filterMap (fun i => tys'[i]?) = tys)
    (hpost : ∀ r, post r → QR r) (hB : ∀ t, at_E D (va_A W sz) W tys' t → QB t) :
    vx_Met l y kk kRm (va_Pc av (fun U => pc_E D W tys' sz U ∧ tw_ok U)) (va_Qi (fun r (_ : Unit) => QR r) (fun _ t => QB t) (va_A W sz)) XC 2 264 (va_A W sz) := by
  have h1 := k_spec (q := kRm) hM hr.1 hr.2.2.2 hr.2.1 hr.2.2.1
  intro p e ha hcs hk s m args below hfr happ hP hK
  obtain ⟨hav, hpc, -⟩ := hP
  obtain ⟨n, o, g1, g2, g3, ⟨r, ho, hpo, hh⟩, L, hfe, hL⟩ := h1 p e ha hcs hk s m args below hfr happ ⟨hav, (hpc.2.1.perm hp).left, hpc.2.2.1.sub is ht, hpc.2.2.2.2⟩ trivial
  refine ⟨n, o, g1, g2, g3, Or.inl ⟨⟨⟨r, (), ho, hpost r hpo, hB _ ⟨by rw [hh]; exact hpc.2.1, va_K.moved hfe.2.1.alike hpc.2.2.1, va_D_iff.mpr ⟨(va_D_iff.mp hpc.2.2.2.1).1, fun q hq => va_A_iff.mpr (Or.inl ⟨q.2, hq⟩)⟩⟩⟩, ⟨by rw [hh]; exact Nat.le_refl _, fun q _ _ => by rw [hh]⟩⟩, L, ⟨hfe.1, hfe.2.1, hfe.2.2.mono (Nat.zero_le _) (Nat.zero_le _)⟩, fun q hq => (hL q hq).elim⟩⟩
theorem kThr {l : Launch} {y : MethodName} {kk : List Cond} {fr ce sl lo mc ms sz : Nat} {D : va_G} {av : List Value} {W ws wr : va_W} {tys tys' : List (ClassId × FieldType)} {A9 : Nat → Prop} {BX QX : String → State → Prop} {QR : Int32 → Prop} {QB : State → Prop}
    (hM : vx_Met l y kk ({ frames := fr, cells := ce, slots := sl, locals := lo } : Room) (va_Pc av (fun U => pc_E D ws tys sz U ∧ tw_ok U)) (va_Qi (fun (_ : Int32) (_ : Unit) => False) (fun _ _ => True) A9) (vx_X (fun _ : Unit => True) (fun E _ t => BX E t) (va_A ws sz)) mc ms (va_A ws sz)) (hr : fr ≤ 8 ∧ ce ≤ 2 ∧ sl ≤ 264 ∧ lo ≤ 150 ∧ mc ≤ 2 ∧ ms ≤ 264) (hp : W.Perm (ws ++ wr)) (is : List Nat) (ht : is.filterMap (fun i => tys'[i]?) = tys)
    (hB : ∀ E t, BX E t → kFr D W ws wr tys' sz t → QX E t) :
    vx_Met l y kk kRm (va_Pc av (fun U => pc_E D W tys' sz U ∧ tw_ok U)) (va_Qi (fun r (_ : Unit) => QR r) (fun _ t => QB t) (va_A W sz)) (vx_X (fun _ : Unit => True) (fun E _ t => QX E t) (va_A W sz)) 2 264 (va_A W sz) := by
  have h1 := k_spec (q := kRm) hM hr.1 hr.2.2.2.1 hr.2.1 hr.2.2.1
  intro p e ha hcs hk s m args below hfr happ hP hK
  obtain ⟨hav, hpc, htw⟩ := hP
  obtain ⟨n, o, g1, g2, g3, hq⟩ := h1 p e ha hcs hk s m args below hfr happ ⟨hav, fr_in is hpc hp ht, htw⟩ trivial
  refine ⟨n, o, g1, g2, g3, ?_⟩
  rcases hq with ⟨⟨⟨r, u, -, hf, -⟩, -⟩, -⟩ | ⟨q, ho, E, ce9, L, ⟨u, -, hb, hF⟩, q1, q2, q3, q4, q5, q6⟩
  · exact hf.elim
  · exact Or.inr ⟨q, ho, E, ce9, L, ⟨(), trivial, hB E _ hb (fun ws2 W2 tys2 hat hz => fr_out hpc hp q4.alike hF hat hz), hF.up hp⟩, q1, q2, q3, q4, q5.mono hr.2.2.2.2.1 hr.2.2.2.2.2, fun z hz => va_A_up hp (q6 z hz)⟩
theorem fr_free {W ws wr : va_W} {A : Nat → Prop} {H0 H : Heap} {locs : List Loc} (hD : va_D A W) (hS : va_S A H0 H locs) (hA : ∀ q : Nat, H0.size ≤ q → A q) (hp : W.Perm (ws ++ wr)) : ∀ q : Nat, va_A ws H.size q → A q := by
  intro q h
  rw [va_A_iff] at h
  rcases h with ⟨e, he⟩ | h
  · exact (va_D_iff.mp hD).2 (q, e) (hp.mem_iff.mpr (List.mem_append_left _ he))
  · exact hA q (Nat.le_trans hS.1 h)
end
section
theorem km {X X1 X2 P Y Z : va_W} (hx : X.Perm (X1 ++ X2)) (hp : P.Perm (Y ++ Z)) : (X ++ P).Perm ((X1 ++ Y) ++ (X2 ++ Z)) := by
  refine (hx.append hp).trans ?_
  rw [List.append_assoc, List.append_assoc]
  refine List.Perm.append_left X1 ?_
  rw [← List.append_assoc, ← List.append_assoc]
  exact List.perm_append_comm.append_right Z
theorem kmp {X X1 X2 P Y Z : va_W} (hx : X.Perm (X1 ++ X2)) (hp : P.Perm (Y ++ Z)) : (X ++ P).Perm (((X1 ++ Y) ++ Z) ++ X2) := by
  refine (km hx hp).trans ?_
  rw [List.append_assoc (X1 ++ Y) Z X2]
  exact List.perm_append_comm.append_left (X1 ++ Y)
theorem kz {A B : va_W} (h : B.Perm A) : ∃ z, A.Perm (B ++ z) := ⟨[], by rw [List.append_nil]; exact h.symm⟩
theorem kzl {A B C z : va_W} (h : C.Perm A) (h2 : C.Perm (B ++ z)) : ∃ z, A.Perm (B ++ z) := ⟨z, h.symm.trans h2⟩
def kR (z : Sg × Int32 × Int32) (r : Int32) : Prop := z.2.1 = 0 ∧ r = z.2.2
def kE (ex : Int32 → String) (z : Sg × Int32 × Int32) (E : String) : Prop := ¬ z.2.1 = 0 ∧ E = ex z.2.1
def kB (D : va_G) (h0 : Nat) (cB cD cR : ClassId) (σ : Sg) (A : Nat → Prop) (t : State) : Prop := ∃ (x2 : KX) (ds2 : Nat → Option Dc), kOk σ x2 ds2 ∧ at_E D A (kW h0 cB cD cR x2 ds2) (kT cB cD cR) t
def kMet (l : Launch) (y : MethodName) (kk : List Cond) (ex : Int32 → String) (D : va_G) (sz h0 : Nat) (cB cD cR : ClassId) (x : KX) (ds : Nat → Option Dc) (av : List Value) (z : Sg × Int32 × Int32) : Prop :=
  vx_Met l y kk kRm (va_Pc av (fun U => pc_E D (kW h0 cB cD cR x ds) (kT cB cD cR) sz U ∧ tw_ok U)) (va_Qi (fun r (_ : Unit) => kR z r) (fun _ t => kB D h0 cB cD cR z.1 (va_A (kW h0 cB cD cR x ds) sz) t) (va_A (kW h0 cB cD cR x ds) sz)) (vx_X (fun _ : Unit => True) (fun E _ t => kE ex z E ∧ kB D h0 cB cD cR z.1 (va_A (kW h0 cB cD cR x ds) sz) t) (va_A (kW h0 cB cD cR x ds) sz)) 2 264 (va_A (kW h0 cB cD cR x ds) sz)
def ex1 (_ : Int32) : String := "java/lang/IllegalStateException"
def ex3 (k : Int32) : String := if k = 1 then "java/util/NoSuchElementException" else if k = 2 then "java/lang/IllegalArgumentException" else "java/lang/IllegalStateException"
section KM
variable {l : Launch} {y : MethodName} {kk : List Cond} {ex : Int32 → String} {fr ce sl lo mc ms sz h0 : Nat} {D : va_G} {cB cD cR : ClassId} {x : KX} {ds : Nat → Option Dc} {av : List Value} {ws wr : va_W} {tys : List (ClassId × FieldType)} {σ : Sg}
theorem kPure {v : Int32} (hM : Met l y kk ({ frames := fr, cells := ce, slots := sl, locals := lo } : Room) (va_Pc av (pc_R D ws tys)) (vp_Si (fun r => r = v)) 0 0 (fun _ => False)) (hr : fr ≤ 8 ∧ ce ≤ 2 ∧ sl ≤ 264 ∧ lo ≤ 150) (hp : (kW h0 cB cD cR x ds).Perm (ws ++ wr)) (is : List Nat) (ht : is.filterMap (fun i => (kT cB cD cR)[i]?) = tys) (hk : kOk σ x ds) : kMet l y kk ex D sz h0 cB cD cR x ds av (σ, 0, v) :=
  kPur hM hr hp is ht (fun _ h => ⟨rfl, h⟩) (fun _ h => ⟨x, ds, hk, h⟩)
theorem kDown {v : Int32} {A9 : Nat → Prop} (hM : vx_Met l y kk ({ frames := fr, cells := ce, slots := sl, locals := lo } : Room) (va_Pc av (fun U => pc_E D ws tys sz U ∧ tw_ok U)) (va_Qi (fun (_ : Int32) (_ : Unit) => False) (fun _ _ => True) A9) (vx_X (fun _ : Unit => True) (fun E _ t => E = "java/lang/IllegalStateException" ∧ at_E D (va_A ws sz) ws tys t) (va_A ws sz)) mc ms (va_A ws sz)) (hr : fr ≤ 8 ∧ ce ≤ 2 ∧ sl ≤ 264 ∧ lo ≤ 150 ∧ mc ≤ 2 ∧ ms ≤ 264) (hp : (kW h0 cB cD cR x ds).Perm (ws ++ wr)) (is : List Nat) (ht : is.filterMap (fun i => (kT cB cD cR)[i]?) = tys) (hk : kOk σ x ds) (hv : ¬ v = 0) (he : ex v = "java/lang/IllegalStateException") : kMet l y kk ex D sz h0 cB cD cR x ds av (σ, v, 0) :=
  kThr hM hr hp is ht (fun E t h fr9 => ⟨⟨hv, h.1.trans he.symm⟩, x, ds, hk, fr9 _ _ _ h.2 (kz hp)⟩)
theorem kThrow {v : Int32} {e9 : String} {A9 : Nat → Prop} (hM : vx_Met l y kk ({ frames := fr, cells := ce, slots := sl, locals := lo } : Room) (va_Pc av (fun U => pc_E D ws tys sz U ∧ tw_ok U)) (va_Qi (fun (_ : Int32) (_ : Unit) => False) (fun _ _ => True) A9) (vx_X (fun _ : Unit => True) (fun E _ t => E = e9 ∧ at_E D (va_A ws sz) ws tys t) (va_A ws sz)) mc ms (va_A ws sz)) (hr : fr ≤ 8 ∧ ce ≤ 2 ∧ sl ≤ 264 ∧ lo ≤ 150 ∧ mc ≤ 2 ∧ ms ≤ 264) (hp : (kW h0 cB cD cR x ds).Perm (ws ++ wr)) (is : List Nat) (ht : is.filterMap (fun i => (kT cB cD cR)[i]?) = tys) (hk : kOk σ x ds) (hv : ¬ v = 0) (he : ex v = e9) : kMet l y kk ex D sz h0 cB cD cR x ds av (σ, v, 0) :=
  kThr hM hr hp is ht (fun E t h fr9 => ⟨⟨hv, h.1.trans he.symm⟩, x, ds, hk, fr9 _ _ _ h.2 (kz hp)⟩)
end KM
theorem kdocN {σ : Sg} {x : KX} {ds : Nat → Option Dc} {a1 : Int32} (hk : kOk σ x ds) (h : dGet σ.ds a1 = none) : atN 8 (dsA ds) a1 = none := by
  unfold atN
  split
  · rfl
  · next q =>
    rcases dGet_none h with z | z | z
    · exact absurd (Or.inl z) q
    · exact absurd (Or.inr z) q
    · rw [hk.ds] at z
      unfold dsM at z
      unfold dsA
      cases e : ds a1.toNatClampNeg with
      | none => rfl
      | some d => rw [e] at z; cases z
theorem kdocS {σ : Sg} {x : KX} {ds : Nat → Option Dc} {a1 : Int32} {i : Nat} {dm : Dm} (hs : sOk σ) (hk : kOk σ x ds) (h : dGet σ.ds a1 = some (i, dm)) : ∃ d : Dc, i < 8 ∧ a1 = nI i ∧ ds i = some d ∧ dm = dcM d ∧ atN 8 (dsA ds) (nI i) = some d.a ∧ d.count ≤ 64 ∧ rvOk d.rv ∧ (∀ j, d.first ≤ j → j < d.count → ∃ r, d.rv j = some r) ∧ dmOk (dcM d) := by
  obtain ⟨h1, h2, h3⟩ := dGet_some h
  have hok := (hs.ds i dm h3).2
  rw [hk.ds] at h3
  unfold dsM at h3
  cases e : ds i with
  | none => rw [e] at h3; cases h3
  | some d =>
    rw [e] at h3
    cases h3
    refine ⟨d, h1, h2, rfl, rfl, ?_, (hk.ok i d e).1, (hk.ok i d e).2, fun j => hk.kp i d j e, hok⟩
    rw [atN_nI (by decide) h1]
    exact dsA_s e
theorem kask {d : Dc} {a2 : Int32} (hf : d.first ≤ d.count) (hc : d.count ≤ 64) (h : ¬ (a2 < nI d.first ∨ nI d.count ≤ a2)) : ∃ r9, a2 = nI r9 ∧ d.first ≤ r9 ∧ r9 < d.count ∧ a2.toNatClampNeg = r9 := by
  have h1 : ¬ a2 < nI d.first := fun z => h (Or.inl z)
  have h2 : ¬ nI d.count ≤ a2 := fun z => h (Or.inr z)
  have h3 : ¬ a2 < 0 := fun z => h1 (Int32.lt_of_lt_of_le z (nI_pos' (by omega)))
  obtain ⟨j, hj, rfl⟩ := nI_of h3
  refine ⟨j, rfl, ?_, ?_, nI_clamp hj⟩
  · rcases Nat.lt_or_ge j d.first with q | q
    · exact absurd (nI_lt q (by omega)) h1
    · exact q
  · rcases Nat.lt_or_ge j d.count with q | q
    · exact q
    · exact absurd (nI_le q hj) h2
theorem krj {d : Dc} {a2 : Int32} (hc : d.count ≤ 64) (h : ¬ (a2 < 0 ∨ nI d.count ≤ a2)) : ∃ j, a2 = nI j ∧ j < d.count ∧ j < 64 ∧ a2.toNatClampNeg = j := by
  have h1 : ¬ a2 < 0 := fun z => h (Or.inl z)
  have h2 : ¬ nI d.count ≤ a2 := fun z => h (Or.inr z)
  obtain ⟨j, hj, rfl⟩ := nI_of h1
  have : j < d.count := by
    rcases Nat.lt_or_ge j d.count with q | q
    · exact q
    · exact absurd (nI_le q hj) h2
  exact ⟨j, rfl, this, by omega, nI_clamp hj⟩
theorem krN1 {d : Dc} {a2 : Int32} (h : a2 < 0 ∨ nI d.count ≤ a2) : atN d.count (rvA d.rv) a2 = none := if_pos h
theorem krN2 {d : Dc} {j : Nat} (hc : d.count ≤ 64) (hj : j < d.count) (e : d.rv j = none) : atN d.count (rvA d.rv) (nI j) = none := by
  rw [atN_nI (by omega) hj]
  exact rvA_n e
theorem krS {d : Dc} {j : Nat} {r : Rc} (hc : d.count ≤ 64) (hj : j < d.count) (e : d.rv j = some r) : atN d.count (rvA d.rv) (nI j) = some r.a := by
  rw [atN_nI (by omega) hj]
  exact rvA_s e
theorem krG0 {ds : Nat → Option Dm} {a1 a2 : Int32} {i : Nat} {d : Dc} (hd : dGet ds a1 = some (i, dcM d)) (h : a2 < 0 ∨ nI d.count ≤ a2) : rGet ds a1 a2 = none := by
  unfold rGet
  rw [hd]
  exact if_pos h
theorem krG1 {ds : Nat → Option Dm} {a1 a2 : Int32} {i j : Nat} {d : Dc} (hd : dGet ds a1 = some (i, dcM d)) (h : ¬ (a2 < 0 ∨ nI d.count ≤ a2)) (hj : a2.toNatClampNeg = j) (e : d.rv j = none) : rGet ds a1 a2 = none := by
  unfold rGet
  rw [hd]
  refine (if_neg h).trans ?_
  rw [hj]
  show ((d.rv j).map rcM).map _ = none
  rw [e]
  rfl
theorem krG2 {ds : Nat → Option Dm} {a1 a2 : Int32} {i j : Nat} {d : Dc} {r : Rc} (hd : dGet ds a1 = some (i, dcM d)) (h : ¬ (a2 < 0 ∨ nI d.count ≤ a2)) (hj : a2.toNatClampNeg = j) (e : d.rv j = some r) : rGet ds a1 a2 = some (i, dcM d, j, rcM r) := by
  unfold rGet
  rw [hd]
  refine (if_neg h).trans ?_
  rw [hj]
  show ((d.rv j).map rcM).map _ = _
  rw [e]
  rfl
theorem krGn {ds : Nat → Option Dm} {a1 a2 : Int32} (hd : dGet ds a1 = none) : rGet ds a1 a2 = none := by
  unfold rGet
  rw [hd]
theorem km0 {X X1 X2 P : va_W} (hx : X.Perm (X1 ++ X2)) : (X ++ P).Perm (X1 ++ (X2 ++ P)) := by
  rw [← List.append_assoc]
  exact hx.append_right P
theorem kmp0 {X X1 X2 P : va_W} (hx : X.Perm (X1 ++ X2)) : (X ++ P).Perm ((X1 ++ P) ++ X2) := by
  refine (km0 hx).trans ?_
  rw [List.append_assoc]
  exact List.perm_append_comm.append_left X1
theorem kdr {H R K R2 P : va_W} (h : R.Perm (K ++ R2)) : (H ++ (R ++ P)).Perm ((H ++ K) ++ (R2 ++ P)) := by
  rw [List.append_assoc]
  refine List.Perm.append_left H ?_
  rw [← List.append_assoc]
  exact h.append_right P
theorem kgo {go : Option Nat} {n : Nat} {wl2 : Int32} (h : ∀ w, go = some w → wl2 = nI (w - n)) : bI go.isSome = bI (go.map (· - n)).isSome ∧ ∀ w, go.map (· - n) = some w → wl2 = nI w := by
  cases go with
  | none => exact ⟨rfl, fun w h => by cases h⟩
  | some v => exact ⟨rfl, fun w e => by cases e; exact h v rfl⟩
theorem knd {σ : Sg} {x : KX} {ds : Nat → Option Dc} (hs : sOk σ) (hk : kOk σ x ds) : ds σ.nd = none := by
  cases e : ds σ.nd with
  | none => rfl
  | some d =>
    have h : σ.ds σ.nd = some (dcM d) := by
      rw [hk.ds]
      unfold dsM
      rw [e]
      rfl
    have := (hs.ds _ _ h).1
    omega
theorem kus {σ : Sg} {x : KX} {ds : Nat → Option Dc} (hk : kOk σ x ds) : usd σ.ds 8 = cfr ds 8 := by
  rw [hk.ds]
  exact usd_M ds 8
theorem kle {k : Nat} {a : Int32} (hk : k ≤ 256) (h : ¬ (a < 0 ∨ nI k < a)) : ∃ n9, a = nI n9 ∧ n9 ≤ k ∧ a.toNatClampNeg = n9 := by
  have h1 : ¬ a < 0 := fun z => h (Or.inl z)
  have h2 : ¬ nI k < a := fun z => h (Or.inr z)
  obtain ⟨j, hj, rfl⟩ := nI_of h1
  refine ⟨j, rfl, ?_, nI_clamp hj⟩
  rcases Nat.lt_or_ge k j with q | q
  · exact absurd (nI_lt q hj) h2
  · exact q
theorem kix {n : Nat} {a : Int32} (hn : n ≤ 1024) (h : ¬ (a < 0 ∨ nI n ≤ a)) : ∃ j, a = nI j ∧ j < n ∧ a.toNatClampNeg = j := by
  have h1 : ¬ a < 0 := fun z => h (Or.inl z)
  have h2 : ¬ nI n ≤ a := fun z => h (Or.inr z)
  obtain ⟨j, hj, rfl⟩ := nI_of h1
  refine ⟨j, rfl, ?_, nI_clamp hj⟩
  rcases Nat.lt_or_ge j n with q | q
  · exact q
  · exact absurd (nI_le q hj) h2
theorem kok_up {ds : Nat → Option Dc} {i : Nat} {d2 : Dc} (h : dsOk ds) (h2 : d2.count ≤ 64 ∧ rvOk d2.rv) : dsOk (va_up ds i (some d2)) := by
  intro k d e
  by_cases q : k = i
  · subst q
    rw [va_up_self] at e
    cases e
    exact h2
  · rw [va_up_ne _ _ q] at e
    exact h k d e
theorem kok_dn {ds : Nat → Option Dc} {i : Nat} (h : dsOk ds) : dsOk (va_up ds i none) := by
  intro k d e
  by_cases q : k = i
  · subst q
    rw [va_up_self] at e
    cases e
  · rw [va_up_ne _ _ q] at e
    exact h k d e
def kpt (ds : Nat → Option Dc) : Prop := ∀ i d j, ds i = some d → d.first ≤ j → j < d.count → ∃ r, d.rv j = some r
theorem kpt_up {ds : Nat → Option Dc} {i : Nat} {d2 : Dc} (h : kpt ds) (h2 : ∀ j, d2.first ≤ j → j < d2.count → ∃ r, d2.rv j = some r) : kpt (va_up ds i (some d2)) := by
  intro k d j e
  by_cases q : k = i
  · subst q
    rw [va_up_self] at e
    cases e
    exact h2 j
  · rw [va_up_ne _ _ q] at e
    exact h k d j e
theorem kpt_dn {ds : Nat → Option Dc} {i : Nat} (h : kpt ds) : kpt (va_up ds i none) := by
  intro k d j e
  by_cases q : k = i
  · subst q
    rw [va_up_self] at e
    cases e
  · rw [va_up_ne _ _ q] at e
    exact h k d j e
theorem kone {D : va_G} {a b : ClassId} {c1 c2 c3 : ClassId} {t1 t2 t3 t : FieldType} {U : State} (h : va_K D vwCl [(c1, t1), (a, t)] U) (h2 : va_K D vwCl [(c2, t2), (c3, t3), (b, t)] U) : a = b := by
  have h3 : va_K D vwCl [(a, t), (b, t)] U := by
    refine ⟨h.1, fun k q hk => ?_⟩
    match k, hk with
    | 0, hk => cases hk; exact h.2 1 _ rfl
    | 1, hk => cases hk; exact h2.2 2 _ rfl
    | k + 2, hk => simp at hk
  exact h3.one 0 1 rfl rfl
theorem kadd {cB cR : ClassId} {ds : Nat → Option Dc} {i a ra : Nat} (hi : i < 8) (hn : ds i = none) : (pW cB cR (va_up ds i (some (a, ra, 0, 0, fun _ => none)))).Perm ([(a, .inr (5, [.ref ra, .int 0, .int 0])), (ra, .inl (cR, 64, .inr (.inr (.inr (.inr (fun _ => none))))))] ++ pW cB cR ds) := by
  have h := pW_add (cB := cB) (cR := cR) (d := (a, ra, 0, 0, fun _ => none)) hi hn
  have e : rvW cB (Dc.rv (a, ra, 0, 0, fun _ => none)) = [] := rvW_nil cB
  rw [e, List.nil_append] at h
  exact h
theorem dsA_keep {ds : Nat → Option Dc} {i : Nat} {d d2 : Dc} (h : ds i = some d) (e : d2.a = d.a) : dsA (va_up ds i (some d2)) = dsA ds := by
  funext k
  unfold dsA va_up
  split
  · next q => subst q; rw [h]; exact congrArg some e
  · rfl
theorem rvA_keep {rv : Nat → Option Rc} {j : Nat} {r r2 : Rc} (h : rv j = some r) (e : r2.a = r.a) : rvA (va_up rv j (some r2)) = rvA rv := by
  funext k
  unfold rvA va_up
  split
  · next q => subst q; rw [h]; exact congrArg some e
  · rfl
theorem rvOk_cut {rv : Nat → Option Rc} {f k : Nat} (h : rvOk rv) : rvOk (cutA f rv k) := by
  intro j r e
  unfold cutA at e
  split at e
  · cases e
  · exact h j r e
theorem kpt_cut {rv : Nat → Option Rc} {f n r9 : Nat} (ha : f ≤ r9) (h : ∀ j, f ≤ j → j < n → ∃ r, rv j = some r) : ∀ j, r9 ≤ j → j < n → ∃ r, cutA r9 rv 0 j = some r := by
  intro j h1 h2
  unfold cutA
  rw [if_neg (by omega)]
  exact h j (by omega) h2
theorem rvOk_up {rv : Nat → Option Rc} {j : Nat} {r : Rc} (h : rvOk rv) (h2 : tx r.S r.np r.fp ∧ r.np ≤ 1024) : rvOk (va_up rv j (some r)) := by
  intro k r2 e
  by_cases q : k = j
  · subst q
    rw [va_up_self] at e
    cases e
    exact h2
  · rw [va_up_ne _ _ q] at e
    exact h k r2 e
theorem kpt_upr {rv : Nat → Option Rc} {f n j : Nat} {r2 : Rc} (h : ∀ j, f ≤ j → j < n → ∃ r, rv j = some r) : ∀ t, f ≤ t → t < n → ∃ r, va_up rv j (some r2) t = some r := by
  intro t h1 h2
  by_cases q : t = j
  · subst q
    exact ⟨r2, va_up_self _ _ _⟩
  · rw [va_up_ne _ _ q]
    exact h t h1 h2
theorem kpt_add {rv : Nat → Option Rc} {f n : Nat} {r2 : Rc} (h : ∀ j, f ≤ j → j < n → ∃ r, rv j = some r) : ∀ t, f ≤ t → t < n + 1 → ∃ r, va_up rv n (some r2) t = some r := by
  intro t h1 h2
  by_cases q : t = n
  · subst q
    exact ⟨r2, va_up_self _ _ _⟩
  · rw [va_up_ne _ _ q]
    exact h t h1 (by omega)
theorem tx_set {S : List Int32} {n j : Nat} {f : Nat → Int32} {b : Int32} (h : tx S n f) (hj : j < n) : tx (S.set j (nbb (S.getD j 0 ^^^ b))) n (upd f j (nbb (f j ^^^ b))) := by
  obtain ⟨h1, h2, h3⟩ := h
  refine ⟨by rw [List.length_set]; exact h1, fun t ht => ?_, fun c hc => ?_⟩
  · by_cases q : t = j
    · subst q
      rw [pk_us, h2 t ht]
      simp [List.getD, List.getElem?_set, h1, ht]
    · rw [pk_un q, h2 t ht]
      simp only [List.getD, List.getElem?_set, if_neg (fun e => q (Eq.symm e) : ¬ j = t)]
  · rcases List.mem_or_eq_of_mem_set hc with hc | rfl
    · exact h3 c hc
    · exact nbb_B _
theorem kno {d : Dc} (h : dmOk (dcM d)) : d.rv d.count = none := by
  cases e : d.rv d.count with
  | none => rfl
  | some r =>
    have h9 : (dcM d).rv d.count = some (rcM r) := by
      show (d.rv d.count).map rcM = _
      rw [e]
      rfl
    have h8 : d.count < d.count := (h.2.2.2 _ _ h9).1
    omega
theorem kpd {cB cR : ClassId} {ds : Nat → Option Dc} {i : Nat} {d : Dc} (hi : i < 8) (h : ds i = some d) : plD cB cR ds (dcH cR d ++ (rvW cB d.rv ++ pW cB cR (va_up ds i none))) := by
  intro k e hk he
  obtain ⟨pl, h1, h2⟩ := plD_of (cB := cB) (cR := cR) k e hk he
  exact ⟨pl, (pW_take hi h).symm.trans h1, h2⟩
theorem kzc {cB cR : ClassId} {ds : Nat → Option Dc} {i : Nat} {d d2 : Dc} {W2 X2 ws2 : va_W} (hi : i < 8) (hc : (rvW cB d2.rv).Sublist (rvW cB d.rv)) (h : ∀ P, (pW cB cR (va_up ds i (some d2))).Perm (dcH cR d2 ++ P) → W2.Perm (ws2 ++ (X2 ++ P))) : ∃ z, (ws2 ++ (X2 ++ (rvW cB d.rv ++ pW cB cR (va_up ds i none)))).Perm (W2 ++ z) := by
  obtain ⟨z, hz⟩ := sub_z hc
  have h1 := h _ (pW_put hi)
  refine ⟨z, ?_⟩
  refine List.Perm.trans ?_ (h1.symm.append_right z)
  rw [List.append_assoc, List.append_assoc]
  refine List.Perm.append_left ws2 (List.Perm.append_left X2 ?_)
  refine (hz.append_right _).trans ?_
  rw [List.append_assoc, List.append_assoc]
  exact List.perm_append_comm.append_left _
theorem kzd {cB cR : ClassId} {ds : Nat → Option Dc} {i : Nat} {d : Dc} {W2 X X2 ws2 : va_W} (hi : i < 8) (hd : ds i = some d) (h : ∀ P, (X ++ P).Perm (ws2 ++ (X2 ++ P))) (hW : W2 = X ++ pW cB cR (va_up ds i none)) : ∃ z, (ws2 ++ (X2 ++ pW cB cR ds)).Perm (W2 ++ z) := by
  subst hW
  refine ⟨dcH cR d ++ rvW cB d.rv, ?_⟩
  refine (h _).symm.trans ?_
  rw [List.append_assoc]
  refine List.Perm.append_left X ?_
  refine (pW_take hi hd).trans ?_
  rw [← List.append_assoc]
  exact List.perm_append_comm
theorem kcm {cB cR : ClassId} {ds : Nat → Option Dc} {i a ra f n : Nat} {rv : Nat → Option Rc} {r : Rc} (hi : i < 8) (hn : n < 64) (h : rv n = none) : (pW cB cR (va_up ds i (some (a, ra, f, n + 1, va_up rv n (some r))))).Perm ((dcH cR (a, ra, f, n + 1, va_up rv n (some r)) ++ rcW cB r) ++ (rvW cB rv ++ pW cB cR (va_up ds i none))) :=
  (pW_put hi).trans (kdr (rvW_add hn h))
theorem kds {sd : Nat → Option Dm} {ds : Nat → Option Dc} {i : Nat} {d2 : Dc} {dm2 : Dm} (h : sd = dsM ds) (e : dcM d2 = dm2) : va_up sd i (some dm2) = dsM (va_up ds i (some d2)) := by
  rw [dsM_up, h, ← e]
  rfl
theorem dcM_cut (d : Dc) (r9 : Nat) : dcM (d.a, d.ra, r9, d.count, cutA r9 d.rv 0) = (r9, d.count, cutA r9 (dcM d).rv 0) := congrArg (fun z : Nat → Option Rv => ((r9, d.count, z) : Dm)) (rvM_cut d.rv r9 0)
theorem dcM_up (d : Dc) (n j : Nat) (r : Rc) : dcM (d.a, d.ra, d.first, n, va_up d.rv j (some r)) = (d.first, n, va_up (dcM d).rv j (some (rcM r))) := congrArg (fun z : Nat → Option Rv => ((d.first, n, z) : Dm)) (rvM_up d.rv j (some r))
theorem kdm {cB cR : ClassId} {ds : Nat → Option Dc} {i j : Nat} {d : Dc} {r r2 : Rc} (hi : i < 8) (hj : j < 64) (hr : d.rv j = some r) (e : r2.a = r.a) : (pW cB cR (va_up ds i (some (d.a, d.ra, d.first, d.count, va_up d.rv j (some r2))))).Perm ((dcH cR d ++ rcW cB r2) ++ (rvW cB (va_up d.rv j none) ++ pW cB cR (va_up ds i none))) := by
  have h := (pW_put (cB := cB) (cR := cR) (ds := ds) (d := (d.a, d.ra, d.first, d.count, va_up d.rv j (some r2))) hi).trans (kdr (rvW_put hj))
  have e1 : rvA (va_up d.rv j (some r2)) = rvA d.rv := rvA_keep hr e
  have e2 : dcH cR (d.a, d.ra, d.first, d.count, va_up d.rv j (some r2)) = dcH cR d := by
    show ([(d.a, .inr (5, [.ref d.ra, .int (nI d.first), .int (nI d.count)])), (d.ra, .inl (cR, 64, .inr (.inr (.inr (.inr (rvA (va_up d.rv j (some r2))))))))] : va_W) = _
    rw [e1]
  rw [e2] at h
  exact h
def sRev (σ : Sg) (a1 a2 a3 : Int32) : Sg × Int32 × Int32 :=
  if σ.down then (σ, 3, 0) else
  match rGet σ.ds a1 a2 with
  | none => (σ, 1, 0)
  | some (_, d, _, r) => if (a2 < nI d.first ∨ nI d.count ≤ a2) ∧ ¬ a3 = 0 ∧ ¬ a3 = 2 then (σ, 1, 0) else if a3 = 0 then (σ, 0, nI r.S.length) else if a3 = 1 then (σ, 0, r.au) else if a3 = 2 then (σ, 0, r.sm) else (σ, 2, 0)
theorem kna0 {d : Dc} {a2 : Int32} (hf : d.first ≤ d.count) (hc : d.count ≤ 64) (q : a2 < 0 ∨ nI d.count ≤ a2) : a2 < nI d.first ∨ nI d.count ≤ a2 := by
  rcases q with q | q
  · exact Or.inl (Int32.lt_of_lt_of_le q (nI_pos' (by omega)))
  · exact Or.inr q
theorem kna1 {d : Dc} {j : Nat} (hf : d.first ≤ d.count) (hc : d.count ≤ 64) (hj : j < d.count) (hr : d.rv j = none) (hkp : ∀ j, d.first ≤ j → j < d.count → ∃ r, d.rv j = some r) : nI j < nI d.first ∨ nI d.count ≤ nI j := by
  rcases Nat.lt_or_ge j d.first with q | q
  · exact Or.inl (nI_lt q (by omega))
  · obtain ⟨r, e⟩ := hkp j q hj
    rw [e] at hr
    cases hr
theorem kMet.out {l : Launch} {y : MethodName} {kk : List Cond} {ex : Int32 → String} {D : va_G} {sz h0 : Nat} {cB cD cR : ClassId} {x : KX} {ds : Nat → Option Dc} {av : List Value} {z : Sg × Int32 × Int32} (h : kMet l y kk ex D sz h0 cB cD cR x ds av z) : vx_Met l y kk kRm (va_Pc av (fun U => pc_E D (kW h0 cB cD cR x ds) (kT cB cD cR) sz U ∧ tw_ok U)) (va_Qi (fun r (_ : Unit) => kR z r) (fun _ t => kB D h0 cB cD cR z.1 (va_A (kW h0 cB cD cR x ds) sz) t) (va_A (kW h0 cB cD cR x ds) sz)) (vx_X (fun _ : Unit => True) (fun E _ t => kE ex z E ∧ kB D h0 cB cD cR z.1 (va_A (kW h0 cB cD cR x ds) sz) t) (va_A (kW h0 cB cD cR x ds) sz)) 2 264 (va_A (kW h0 cB cD cR x ds) sz) := h
theorem cd_feed {σ : Sg} {a b c d e : Int32} : (sFeed σ a b c d e).2.1 = 0 ∨ (sFeed σ a b c d e).2.1 = 1 := by
  unfold sFeed
  repeat' split
  all_goals first | exact Or.inl rfl | exact Or.inr rfl
theorem cd_end {σ : Sg} {a : Int32} : (sEnd σ a).2.1 = 0 ∨ (sEnd σ a).2.1 = 1 := by
  unfold sEnd
  repeat' split
  all_goals first | exact Or.inl rfl | exact Or.inr rfl
theorem cd_make {σ : Sg} : (sMake σ).2.1 = 0 ∨ (sMake σ).2.1 = 1 := by
  unfold sMake
  repeat' split
  all_goals first | exact Or.inl rfl | exact Or.inr rfl
theorem cd_commit {σ : Sg} {a b : Int32} : (sCommit σ a b).2.1 = 0 ∨ (sCommit σ a b).2.1 = 1 := by
  unfold sCommit
  repeat' split
  all_goals first | exact Or.inl rfl | exact Or.inr rfl
theorem cd_fetch {σ : Sg} {a b : Int32} : (sFetch σ a b).2.1 = 0 ∨ (sFetch σ a b).2.1 = 1 := by
  unfold sFetch
  repeat' split
  all_goals first | exact Or.inl rfl | exact Or.inr rfl
theorem cd_out {σ : Sg} {a : Int32} : (sOut σ a).2.1 = 0 ∨ (sOut σ a).2.1 = 1 := by
  unfold sOut
  repeat' split
  all_goals first | exact Or.inl rfl | exact Or.inr rfl
theorem cd_steps {σ : Sg} : (sSteps σ).2.1 = 0 ∨ (sSteps σ).2.1 = 1 := by
  unfold sSteps
  repeat' split
  all_goals first | exact Or.inl rfl | exact Or.inr rfl
theorem cd_trim {σ : Sg} {a b : Int32} : (sTrim σ a b).2.1 = 0 ∨ (sTrim σ a b).2.1 = 1 := by
  unfold sTrim
  repeat' split
  all_goals first | exact Or.inl rfl | exact Or.inr rfl
theorem cd_dropDocument {σ : Sg} {a : Int32} : (sDrop σ a).2.1 = 0 ∨ (sDrop σ a).2.1 = 1 := by
  unfold sDrop
  repeat' split
  all_goals first | exact Or.inl rfl | exact Or.inr rfl
theorem cd_about {σ : Sg} {a b : Int32} : (sAbout σ a b).2.1 = 0 ∨ (sAbout σ a b).2.1 = 1 ∨ (sAbout σ a b).2.1 = 2 ∨ (sAbout σ a b).2.1 = 3 := by
  unfold sAbout
  repeat' split
  all_goals first | exact Or.inl rfl | exact Or.inr (Or.inl rfl) | exact Or.inr (Or.inr (Or.inl rfl)) | exact Or.inr (Or.inr (Or.inr rfl))
theorem cd_revision {σ : Sg} {a b d : Int32} : (sRev σ a b d).2.1 = 0 ∨ (sRev σ a b d).2.1 = 1 ∨ (sRev σ a b d).2.1 = 2 ∨ (sRev σ a b d).2.1 = 3 := by
  unfold sRev
  repeat' split
  all_goals first | exact Or.inl rfl | exact Or.inr (Or.inl rfl) | exact Or.inr (Or.inr (Or.inl rfl)) | exact Or.inr (Or.inr (Or.inr rfl))
theorem cd_pieceByte {σ : Sg} {a b d : Int32} : (sByte σ a b d).2.1 = 0 ∨ (sByte σ a b d).2.1 = 1 := by
  unfold sByte
  repeat' split
  all_goals first | exact Or.inl rfl | exact Or.inr rfl
theorem cd_damage {σ : Sg} {a b d e : Int32} : (sDamage σ a b d e).2.1 = 0 ∨ (sDamage σ a b d e).2.1 = 1 := by
  unfold sDamage
  repeat' split
  all_goals first | exact Or.inl rfl | exact Or.inr rfl
theorem cd_verify {σ : Sg} {a : Int32} : (sVerify σ a).2.1 = 0 ∨ (sVerify σ a).2.1 = 1 := by
  unfold sVerify
  repeat' split
  all_goals first | exact Or.inl rfl | exact Or.inr rfl
theorem cd_common {σ : Sg} {a b d e : Int32} : (sCommon σ a b d e).2.1 = 0 ∨ (sCommon σ a b d e).2.1 = 1 := by
  unfold sCommon
  repeat' split
  all_goals first | exact Or.inl rfl | exact Or.inr rfl
theorem cd_freeBlocks {σ : Sg} : (sFree σ).2.1 = 0 ∨ (sFree σ).2.1 = 1 := by
  unfold sFree
  repeat' split
  all_goals first | exact Or.inl rfl | exact Or.inr rfl
theorem cd_cutAfter {σ : Sg} {a : Int32} : (sCut σ a).2.1 = 0 ∨ (sCut σ a).2.1 = 1 := by
  unfold sCut
  repeat' split
  all_goals first | exact Or.inl rfl | exact Or.inr rfl
end
