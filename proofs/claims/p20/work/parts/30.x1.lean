set_option maxHeartbeats 4000000 in
set_option maxRecDepth 100000 in
theorem x_needPower (l : Launch) (hl9 : l.stackTraces = false) (dC : Nat → ClassId) (dI : Nat → Nat → Nat) (sz : Nat) (h0 : Nat) (v_documents : Value) (v_buffer : Value) (v_fetched : Value) (v_compared : Value) (v_maker : Value) (v_writer : Value) (i_madeDocuments : Int32) (i_fetchedSteps : Int32) (hp : Nat) (p_i_going : Int32) (p_i_writesLeft : Int32)  : vx_Met l y_K_needPower k_K_needPower ({ frames := 6, cells := 1, slots := 6, locals := 85 } : Room) (va_Pc [.ref h0] (fun U => pc_E (dC, dI) [(h0, .inr (0, [v_documents, v_buffer, v_fetched, v_compared, v_maker, v_writer, .ref hp, .int i_madeDocuments, .int i_fetchedSteps])), (hp, .inr (4, [.int 1, .int p_i_going, .int p_i_writesLeft]))] [] sz U ∧ tw_ok U)) (va_Qv (fun (_ : Unit) => False) (fun _ _ => True) (va_A [(h0, .inr (0, [v_documents, v_buffer, v_fetched, v_compared, v_maker, v_writer, .ref hp, .int i_madeDocuments, .int i_fetchedSteps])), (hp, .inr (4, [.int 1, .int p_i_going, .int p_i_writesLeft]))] sz)) (vx_X (fun _ : Unit => True) (fun E _ t => E = "java/lang/IllegalStateException" ∧ at_E (dC, dI) (va_A [(h0, .inr (0, [v_documents, v_buffer, v_fetched, v_compared, v_maker, v_writer, .ref hp, .int i_madeDocuments, .int i_fetchedSteps])), (hp, .inr (4, [.int 1, .int p_i_going, .int p_i_writesLeft]))] sz) [(h0, .inr (0, [v_documents, v_buffer, v_fetched, v_compared, v_maker, v_writer, .ref hp, .int i_madeDocuments, .int i_fetchedSteps])), (hp, .inr (4, [.int 1, .int p_i_going, .int p_i_writesLeft]))] [] t) (va_A [(h0, .inr (0, [v_documents, v_buffer, v_fetched, v_compared, v_maker, v_writer, .ref hp, .int i_madeDocuments, .int i_fetchedSteps])), (hp, .inr (4, [.int 1, .int p_i_going, .int p_i_writesLeft]))] sz)) 1 6 (va_A [(h0, .inr (0, [v_documents, v_buffer, v_fetched, v_compared, v_maker, v_writer, .ref hp, .int i_madeDocuments, .int i_fetchedSteps])), (hp, .inr (4, [.int 1, .int p_i_going, .int p_i_writesLeft]))] sz) := by
  refine vx_ofW (cc := prog_1_method_21_code) (maxL := 1) (ret := none) (by decide) rfl ?_
  intro p e s m args below meth c s₁ B hml htab hv
  obtain ⟨rfl, ⟨hsz, hP, hK, hD0, hN⟩, hTw⟩ := hv
  have hx := B.exec
  have hb := B.bytes
  have hr := B.returns
  have hts := atoms_spec (ws := k_K_needPower) B.pre
  have hw0 : ∀ w ∈ w0, w.before _ s = true := fun w h => hts w (List.mem_cons_of_mem _ h)
  have hown : s.vm.findClass R_K = some m.cls := findClass_of_methodNamed B.named
  have hlocks := B.notSynchronized
  subst hsz
  have hD := hD0.self (sz := s.heap.size)
  have hTwA := tw_A hTw hP
  generalize hAe : va_A [(h0, .inr (0, [v_documents, v_buffer, v_fetched, v_compared, v_maker, v_writer, .ref hp, .int i_madeDocuments, .int i_fetchedSteps])), (hp, .inr (4, [.int 1, .int p_i_going, .int p_i_writesLeft]))] s.heap.size = A at hD hTwA ⊢
  have hA : ∀ q : Nat, s.heap.size ≤ q → A q := fun q h => by rw [← hAe]; exact Or.inr h
  have hS : va_S A s.heap s.heap [] := va_S.rf
  have hP : va_P (dC, dI) vwCl [(h0, .inr (0, [v_documents, v_buffer, v_fetched, v_compared, v_maker, v_writer, .ref hp, .int i_madeDocuments, .int i_fetchedSteps])), (hp, .inr (4, [.int 1, .int p_i_going, .int p_i_writesLeft]))] s.heap := hP
  have hl := lv_entry ([.ref h0]) (n := 1) (Nat.le_of_ble_eq_true rfl)
  rw [lg_entry_eq]
  generalize (lg_sl ([.ref h0]) ++ List.replicate (1 - (lg_sl ([.ref h0])).length) Slot.unset).toArray = ls at hl ⊢
  have hl : lv_has ls 1 [(0, .ref h0)] := hl
  refine lv_aload_n hx hb d_K_needPower_0 rfl (lv_at hl 0 rfl) ?_
  refine va_get (D := (dC, dI)) (ci := 0) (v := .ref hp) (C := R_K) (T := F_K) (N := 9) hx hb hw0 in_K hown hK hP 0 rfl rfl 6 (by decide) (hw0 (.fieldLink R_K 45 "TextKeeper" "power" "LTextKeeper$Power;") (List.mem_of_getElem? (i := 105) rfl)) (fun _ h9 => h9) rfl d_K_needPower_1 ?_
  refine va_getN (D := (dC, dI)) (ci := 4) (v := .int 1) (C := R_P) (T := F_P) (N := 3) hx hb hw0 in_P hown hK hP 1 rfl rfl 0 (by decide) (va_Nw.use rfl (hN.1 (.fieldLinkNest R_K 180 "TextKeeper$Power" "down" "Z" "TextKeeper") (List.mem_of_getElem? (i := 7) rfl))) (fun _ h9 => h9) rfl d_K_needPower_4 ?_
  refine lv_if_eq (tgt := 18) hx hb d_K_needPower_7 (by decide) (fun h9 => absurd h9 (by decide +kernel)) (fun _ => ?_)
  have hP9 := hP.sub (ws' := [(h0, .inr (0, [v_documents, v_buffer, v_fetched, v_compared, v_maker, v_writer, .ref hp, .int i_madeDocuments, .int i_fetchedSteps])), (hp, .inr (4, [.int 1, .int p_i_going, .int p_i_writesLeft]))]) [0, 1] rfl
  have hD9 := hD.sub (ws' := [(h0, .inr (0, [v_documents, v_buffer, v_fetched, v_compared, v_maker, v_writer, .ref hp, .int i_madeDocuments, .int i_fetchedSteps])), (hp, .inr (4, [.int 1, .int p_i_going, .int p_i_writesLeft]))]) [0, 1] (by decide) rfl
  have hK9 := hK.sub (tys' := []) [] rfl
  have tw_at : ∀ w ∈ vx_at0 "TextKeeper" 189 "java/lang/IllegalStateException" ["java/lang/RuntimeException", "java/lang/Exception"], w.before _ s = true := vx_hat (fun w h => hw0 w (twS_1 w h)) twS_2 (fun w h => va_Nw.use (nw0_tab w h) (hN.1 w h))
  exact vx_throw0 (names := ["java/lang/RuntimeException", "java/lang/Exception"]) (ik := 187) (ic := 189) (A := A) hx hb hl9 hown (by decide +kernel) (by decide +kernel) (hw0 (.classLink "TextKeeper" 187 "java/lang/IllegalStateException") (List.mem_of_getElem? (i := 432) rfl)) (hw0 (.initialized "java/lang/IllegalStateException") (List.mem_of_getElem? (i := 428) rfl)) tw_at twS_g hTwA.1 hTwA.2 hS (by rw [hml]; exact hl.1) d_K_needPower_10 d_K_needPower_13 d_K_needPower_14 d_K_needPower_17 (fun x hx => (htab x hx).elim) (by decide +kernel) (by decide +kernel) (by decide +kernel) (by decide +kernel) hlocks (fun t hvm hz hk => ⟨(), trivial, ⟨rfl, hP9.kept (fun k q hq => hk _ ((hP9 k q hq).lt)), va_K.moved hvm hK9, hD9⟩, Nat.le_trans hS.1 hz, fun q h hn => (hk q (Nat.lt_of_lt_of_le h hS.1)).trans (hS.2.1 q h hn)⟩) hS.2.2 (by decide +kernel) (by decide +kernel)
set_option maxHeartbeats 4000000 in
set_option maxRecDepth 100000 in
theorem x_feed_D (l : Launch) (hl9 : l.stackTraces = false) (dC : Nat → ClassId) (dI : Nat → Nat → Nat) (sz : Nat) (h0 : Nat) (v_documents : Value) (v_buffer : Value) (v_fetched : Value) (v_compared : Value) (v_maker : Value) (v_writer : Value) (i_madeDocuments : Int32) (i_fetchedSteps : Int32) (hp : Nat) (p_i_going : Int32) (p_i_writesLeft : Int32) (a1 : Int32) (a2 : Int32) (a3 : Int32) (a4 : Int32) (a5 : Int32)  : vx_Met l y_K_feed k_K_feed ({ frames := 7, cells := 1, slots := 6, locals := 105 } : Room) (va_Pc [.ref h0, .int a1, .int a2, .int a3, .int a4, .int a5] (fun U => pc_E (dC, dI) [(h0, .inr (0, [v_documents, v_buffer, v_fetched, v_compared, v_maker, v_writer, .ref hp, .int i_madeDocuments, .int i_fetchedSteps])), (hp, .inr (4, [.int 1, .int p_i_going, .int p_i_writesLeft]))] [] sz U ∧ tw_ok U)) (va_Qi (fun (_ : Int32) (_ : Unit) => False) (fun _ _ => True) (va_A [(h0, .inr (0, [v_documents, v_buffer, v_fetched, v_compared, v_maker, v_writer, .ref hp, .int i_madeDocuments, .int i_fetchedSteps])), (hp, .inr (4, [.int 1, .int p_i_going, .int p_i_writesLeft]))] sz)) (vx_X (fun _ : Unit => True) (fun E _ t => E = "java/lang/IllegalStateException" ∧ at_E (dC, dI) (va_A [(h0, .inr (0, [v_documents, v_buffer, v_fetched, v_compared, v_maker, v_writer, .ref hp, .int i_madeDocuments, .int i_fetchedSteps])), (hp, .inr (4, [.int 1, .int p_i_going, .int p_i_writesLeft]))] sz) [(h0, .inr (0, [v_documents, v_buffer, v_fetched, v_compared, v_maker, v_writer, .ref hp, .int i_madeDocuments, .int i_fetchedSteps])), (hp, .inr (4, [.int 1, .int p_i_going, .int p_i_writesLeft]))] [] t) (va_A [(h0, .inr (0, [v_documents, v_buffer, v_fetched, v_compared, v_maker, v_writer, .ref hp, .int i_madeDocuments, .int i_fetchedSteps])), (hp, .inr (4, [.int 1, .int p_i_going, .int p_i_writesLeft]))] sz)) 1 6 (va_A [(h0, .inr (0, [v_documents, v_buffer, v_fetched, v_compared, v_maker, v_writer, .ref hp, .int i_madeDocuments, .int i_fetchedSteps])), (hp, .inr (4, [.int 1, .int p_i_going, .int p_i_writesLeft]))] sz) := by
  refine vx_ofW (cc := prog_1_method_2_code) (maxL := 6) (ret := (some .boolean)) (by decide) rfl ?_
  intro p e s m args below meth c s₁ B hml htab hv
  obtain ⟨rfl, ⟨hsz, hP, hK, hD0, hN⟩, hTw⟩ := hv
  have hx := B.exec
  have hb := B.bytes
  have hr := B.returns
  have hts := atoms_spec (ws := k_K_feed) B.pre
  have hw0 : ∀ w ∈ w0, w.before _ s = true := fun w h => hts w (List.mem_cons_of_mem _ h)
  have hown : s.vm.findClass R_K = some m.cls := findClass_of_methodNamed B.named
  have hlocks := B.notSynchronized
  subst hsz
  have hD := hD0.self (sz := s.heap.size)
  have hTwA := tw_A hTw hP
  generalize hAe : va_A [(h0, .inr (0, [v_documents, v_buffer, v_fetched, v_compared, v_maker, v_writer, .ref hp, .int i_madeDocuments, .int i_fetchedSteps])), (hp, .inr (4, [.int 1, .int p_i_going, .int p_i_writesLeft]))] s.heap.size = A at hD hTwA ⊢
  have hA : ∀ q : Nat, s.heap.size ≤ q → A q := fun q h => by rw [← hAe]; exact Or.inr h
  have hS : va_S A s.heap s.heap [] := va_S.rf
  have hP : va_P (dC, dI) vwCl [(h0, .inr (0, [v_documents, v_buffer, v_fetched, v_compared, v_maker, v_writer, .ref hp, .int i_madeDocuments, .int i_fetchedSteps])), (hp, .inr (4, [.int 1, .int p_i_going, .int p_i_writesLeft]))] s.heap := hP
  have hl := lv_entry ([.ref h0, .int a1, .int a2, .int a3, .int a4, .int a5]) (n := 6) (Nat.le_of_ble_eq_true rfl)
  rw [lg_entry_eq]
  generalize (lg_sl ([.ref h0, .int a1, .int a2, .int a3, .int a4, .int a5]) ++ List.replicate (6 - (lg_sl ([.ref h0, .int a1, .int a2, .int a3, .int a4, .int a5])).length) Slot.unset).toArray = ls at hl ⊢
  have hl : lv_has ls 6 [(0, .ref h0), (1, .int a1), (2, .int a2), (3, .int a3), (4, .int a4), (5, .int a5)] := hl
  refine lv_aload_n hx hb d_K_feed_0 rfl (lv_at hl 0 rfl) ?_
  have hPc := hP.sub (ws' := [(h0, .inr (0, [v_documents, v_buffer, v_fetched, v_compared, v_maker, v_writer, .ref hp, .int i_madeDocuments, .int i_fetchedSteps])), (hp, .inr (4, [.int 1, .int p_i_going, .int p_i_writesLeft]))]) [0, 1] rfl
  have hKc := hK.sub (tys' := []) [] rfl
  have hDc := hD.sub (ws' := [(h0, .inr (0, [v_documents, v_buffer, v_fetched, v_compared, v_maker, v_writer, .ref hp, .int i_madeDocuments, .int i_fetchedSteps])), (hp, .inr (4, [.int 1, .int p_i_going, .int p_i_writesLeft]))]) [0, 1] (by decide) rfl
  have hFc := va_free (wc := [(h0, .inr (0, [v_documents, v_buffer, v_fetched, v_compared, v_maker, v_writer, .ref hp, .int i_madeDocuments, .int i_fetchedSteps])), (hp, .inr (4, [.int 1, .int p_i_going, .int p_i_writesLeft]))]) hD hS hA [0, 1] rfl
  refine vx_callv (vx_runV (As := []) (rest := []) ⟨hx, hb, hml, hown, hw0⟩ (x_needPower l hl9 dC dI s.heap.size h0 v_documents v_buffer v_fetched v_compared v_maker v_writer i_madeDocuments i_fetchedSteps hp p_i_going p_i_writesLeft ) (cwV 0 hw0 (gd_V 322 323 324 226 325 rfl rfl rfl rfl rfl) rfl rfl rfl (by decide +kernel) ⟨by decide +kernel, by decide +kernel⟩) (prV_X hPc hKc hDc hN (hTwA.at hS) (va_recv hKc hPc (ci := 0) (q0 := 0) rfl rfl)) rfl rfl hl.1 rfl (lv_room (Nat.le_of_ble_eq_true rfl)) d_K_feed_1 ⟨by decide +kernel, by decide +kernel⟩) hS (fun q _ h => hFc q h) hFc (fun q _ h => hFc q h) (fun E ce q9 u t H1 locs ht hvm hw hB hz1 hk1 hS hce hcv hcl => ?_) (fun u t H1 locs ht hvm hw hB hz1 hk1 hS => False.elim hw)
  obtain ⟨rfl, hP1, hK1, hD1⟩ := hB
  rw [ht] at hP1
  have hK1 := va_K.moved hvm.symm hK1
  obtain ⟨hP, hD⟩ := va_join (wr := []) (w1 := [(h0, .inr (0, [v_documents, v_buffer, v_fetched, v_compared, v_maker, v_writer, .ref hp, .int i_madeDocuments, .int i_fetchedSteps])), (hp, .inr (4, [.int 1, .int p_i_going, .int p_i_writesLeft]))]) hP hD [0, 1] [] rfl rfl (by decide) (by decide) hk1 hFc hP1 hD1
  generalize H1 = H at hP hS hce ⊢
  replace hP : va_P (dC, dI) vwCl [(h0, .inr (0, [v_documents, v_buffer, v_fetched, v_compared, v_maker, v_writer, .ref hp, .int i_madeDocuments, .int i_fetchedSteps])), (hp, .inr (4, [.int 1, .int p_i_going, .int p_i_writesLeft]))] H := hP
  replace hD : va_D A [(h0, .inr (0, [v_documents, v_buffer, v_fetched, v_compared, v_maker, v_writer, .ref hp, .int i_madeDocuments, .int i_fetchedSteps])), (hp, .inr (4, [.int 1, .int p_i_going, .int p_i_writesLeft]))] := hD
  have hP9 := hP.sub (ws' := [(h0, .inr (0, [v_documents, v_buffer, v_fetched, v_compared, v_maker, v_writer, .ref hp, .int i_madeDocuments, .int i_fetchedSteps])), (hp, .inr (4, [.int 1, .int p_i_going, .int p_i_writesLeft]))]) [0, 1] rfl
  have hD9 := hD.sub (ws' := [(h0, .inr (0, [v_documents, v_buffer, v_fetched, v_compared, v_maker, v_writer, .ref hp, .int i_madeDocuments, .int i_fetchedSteps])), (hp, .inr (4, [.int 1, .int p_i_going, .int p_i_writesLeft]))]) [0, 1] (by decide) rfl
  have hK9 := hK.sub (tys' := []) [] rfl
  exact vx_out (fun x hx => (htab x hx).elim) hlocks hce hcv hcl (fun t ht hvm => ⟨(), trivial, ⟨rfl, by rw [ht]; exact hP9, va_K.moved hvm hK9, hD9⟩, hS.F ht⟩) hS.2.2 (by decide +kernel) (by decide +kernel)
set_option maxHeartbeats 4000000 in
set_option maxRecDepth 100000 in
theorem x_end_D (l : Launch) (hl9 : l.stackTraces = false) (dC : Nat → ClassId) (dI : Nat → Nat → Nat) (sz : Nat) (h0 : Nat) (v_documents : Value) (v_buffer : Value) (v_fetched : Value) (v_compared : Value) (v_maker : Value) (v_writer : Value) (i_madeDocuments : Int32) (i_fetchedSteps : Int32) (hp : Nat) (p_i_going : Int32) (p_i_writesLeft : Int32) (a1 : Int32)  : vx_Met l y_K_end k_K_end ({ frames := 7, cells := 1, slots := 6, locals := 105 } : Room) (va_Pc [.ref h0, .int a1] (fun U => pc_E (dC, dI) [(h0, .inr (0, [v_documents, v_buffer, v_fetched, v_compared, v_maker, v_writer, .ref hp, .int i_madeDocuments, .int i_fetchedSteps])), (hp, .inr (4, [.int 1, .int p_i_going, .int p_i_writesLeft]))] [] sz U ∧ tw_ok U)) (va_Qi (fun (_ : Int32) (_ : Unit) => False) (fun _ _ => True) (va_A [(h0, .inr (0, [v_documents, v_buffer, v_fetched, v_compared, v_maker, v_writer, .ref hp, .int i_madeDocuments, .int i_fetchedSteps])), (hp, .inr (4, [.int 1, .int p_i_going, .int p_i_writesLeft]))] sz)) (vx_X (fun _ : Unit => True) (fun E _ t => E = "java/lang/IllegalStateException" ∧ at_E (dC, dI) (va_A [(h0, .inr (0, [v_documents, v_buffer, v_fetched, v_compared, v_maker, v_writer, .ref hp, .int i_madeDocuments, .int i_fetchedSteps])), (hp, .inr (4, [.int 1, .int p_i_going, .int p_i_writesLeft]))] sz) [(h0, .inr (0, [v_documents, v_buffer, v_fetched, v_compared, v_maker, v_writer, .ref hp, .int i_madeDocuments, .int i_fetchedSteps])), (hp, .inr (4, [.int 1, .int p_i_going, .int p_i_writesLeft]))] [] t) (va_A [(h0, .inr (0, [v_documents, v_buffer, v_fetched, v_compared, v_maker, v_writer, .ref hp, .int i_madeDocuments, .int i_fetchedSteps])), (hp, .inr (4, [.int 1, .int p_i_going, .int p_i_writesLeft]))] sz)) 1 6 (va_A [(h0, .inr (0, [v_documents, v_buffer, v_fetched, v_compared, v_maker, v_writer, .ref hp, .int i_madeDocuments, .int i_fetchedSteps])), (hp, .inr (4, [.int 1, .int p_i_going, .int p_i_writesLeft]))] sz) := by
  refine vx_ofW (cc := prog_1_method_3_code) (maxL := 2) (ret := (some .boolean)) (by decide) rfl ?_
  intro p e s m args below meth c s₁ B hml htab hv
  obtain ⟨rfl, ⟨hsz, hP, hK, hD0, hN⟩, hTw⟩ := hv
  have hx := B.exec
  have hb := B.bytes
  have hr := B.returns
  have hts := atoms_spec (ws := k_K_end) B.pre
  have hw0 : ∀ w ∈ w0, w.before _ s = true := fun w h => hts w (List.mem_cons_of_mem _ h)
  have hown : s.vm.findClass R_K = some m.cls := findClass_of_methodNamed B.named
  have hlocks := B.notSynchronized
  subst hsz
  have hD := hD0.self (sz := s.heap.size)
  have hTwA := tw_A hTw hP
  generalize hAe : va_A [(h0, .inr (0, [v_documents, v_buffer, v_fetched, v_compared, v_maker, v_writer, .ref hp, .int i_madeDocuments, .int i_fetchedSteps])), (hp, .inr (4, [.int 1, .int p_i_going, .int p_i_writesLeft]))] s.heap.size = A at hD hTwA ⊢
  have hA : ∀ q : Nat, s.heap.size ≤ q → A q := fun q h => by rw [← hAe]; exact Or.inr h
  have hS : va_S A s.heap s.heap [] := va_S.rf
  have hP : va_P (dC, dI) vwCl [(h0, .inr (0, [v_documents, v_buffer, v_fetched, v_compared, v_maker, v_writer, .ref hp, .int i_madeDocuments, .int i_fetchedSteps])), (hp, .inr (4, [.int 1, .int p_i_going, .int p_i_writesLeft]))] s.heap := hP
  have hl := lv_entry ([.ref h0, .int a1]) (n := 2) (Nat.le_of_ble_eq_true rfl)
  rw [lg_entry_eq]
  generalize (lg_sl ([.ref h0, .int a1]) ++ List.replicate (2 - (lg_sl ([.ref h0, .int a1])).length) Slot.unset).toArray = ls at hl ⊢
  have hl : lv_has ls 2 [(0, .ref h0), (1, .int a1)] := hl
  refine lv_aload_n hx hb d_K_end_0 rfl (lv_at hl 0 rfl) ?_
  have hPc := hP.sub (ws' := [(h0, .inr (0, [v_documents, v_buffer, v_fetched, v_compared, v_maker, v_writer, .ref hp, .int i_madeDocuments, .int i_fetchedSteps])), (hp, .inr (4, [.int 1, .int p_i_going, .int p_i_writesLeft]))]) [0, 1] rfl
  have hKc := hK.sub (tys' := []) [] rfl
  have hDc := hD.sub (ws' := [(h0, .inr (0, [v_documents, v_buffer, v_fetched, v_compared, v_maker, v_writer, .ref hp, .int i_madeDocuments, .int i_fetchedSteps])), (hp, .inr (4, [.int 1, .int p_i_going, .int p_i_writesLeft]))]) [0, 1] (by decide) rfl
  have hFc := va_free (wc := [(h0, .inr (0, [v_documents, v_buffer, v_fetched, v_compared, v_maker, v_writer, .ref hp, .int i_madeDocuments, .int i_fetchedSteps])), (hp, .inr (4, [.int 1, .int p_i_going, .int p_i_writesLeft]))]) hD hS hA [0, 1] rfl
  refine vx_callv (vx_runV (As := []) (rest := []) ⟨hx, hb, hml, hown, hw0⟩ (x_needPower l hl9 dC dI s.heap.size h0 v_documents v_buffer v_fetched v_compared v_maker v_writer i_madeDocuments i_fetchedSteps hp p_i_going p_i_writesLeft ) (cwV 0 hw0 (gd_V 322 323 324 226 325 rfl rfl rfl rfl rfl) rfl rfl rfl (by decide +kernel) ⟨by decide +kernel, by decide +kernel⟩) (prV_X hPc hKc hDc hN (hTwA.at hS) (va_recv hKc hPc (ci := 0) (q0 := 0) rfl rfl)) rfl rfl hl.1 rfl (lv_room (Nat.le_of_ble_eq_true rfl)) d_K_end_1 ⟨by decide +kernel, by decide +kernel⟩) hS (fun q _ h => hFc q h) hFc (fun q _ h => hFc q h) (fun E ce q9 u t H1 locs ht hvm hw hB hz1 hk1 hS hce hcv hcl => ?_) (fun u t H1 locs ht hvm hw hB hz1 hk1 hS => False.elim hw)
  obtain ⟨rfl, hP1, hK1, hD1⟩ := hB
  rw [ht] at hP1
  have hK1 := va_K.moved hvm.symm hK1
  obtain ⟨hP, hD⟩ := va_join (wr := []) (w1 := [(h0, .inr (0, [v_documents, v_buffer, v_fetched, v_compared, v_maker, v_writer, .ref hp, .int i_madeDocuments, .int i_fetchedSteps])), (hp, .inr (4, [.int 1, .int p_i_going, .int p_i_writesLeft]))]) hP hD [0, 1] [] rfl rfl (by decide) (by decide) hk1 hFc hP1 hD1
  generalize H1 = H at hP hS hce ⊢
  replace hP : va_P (dC, dI) vwCl [(h0, .inr (0, [v_documents, v_buffer, v_fetched, v_compared, v_maker, v_writer, .ref hp, .int i_madeDocuments, .int i_fetchedSteps])), (hp, .inr (4, [.int 1, .int p_i_going, .int p_i_writesLeft]))] H := hP
  replace hD : va_D A [(h0, .inr (0, [v_documents, v_buffer, v_fetched, v_compared, v_maker, v_writer, .ref hp, .int i_madeDocuments, .int i_fetchedSteps])), (hp, .inr (4, [.int 1, .int p_i_going, .int p_i_writesLeft]))] := hD
  have hP9 := hP.sub (ws' := [(h0, .inr (0, [v_documents, v_buffer, v_fetched, v_compared, v_maker, v_writer, .ref hp, .int i_madeDocuments, .int i_fetchedSteps])), (hp, .inr (4, [.int 1, .int p_i_going, .int p_i_writesLeft]))]) [0, 1] rfl
  have hD9 := hD.sub (ws' := [(h0, .inr (0, [v_documents, v_buffer, v_fetched, v_compared, v_maker, v_writer, .ref hp, .int i_madeDocuments, .int i_fetchedSteps])), (hp, .inr (4, [.int 1, .int p_i_going, .int p_i_writesLeft]))]) [0, 1] (by decide) rfl
  have hK9 := hK.sub (tys' := []) [] rfl
  exact vx_out (fun x hx => (htab x hx).elim) hlocks hce hcv hcl (fun t ht hvm => ⟨(), trivial, ⟨rfl, by rw [ht]; exact hP9, va_K.moved hvm hK9, hD9⟩, hS.F ht⟩) hS.2.2 (by decide +kernel) (by decide +kernel)
set_option maxHeartbeats 4000000 in
set_option maxRecDepth 100000 in
theorem x_make_D (l : Launch) (hl9 : l.stackTraces = false) (dC : Nat → ClassId) (dI : Nat → Nat → Nat) (sz : Nat) (h0 : Nat) (v_documents : Value) (v_buffer : Value) (v_fetched : Value) (v_compared : Value) (v_maker : Value) (v_writer : Value) (i_madeDocuments : Int32) (i_fetchedSteps : Int32) (hp : Nat) (p_i_going : Int32) (p_i_writesLeft : Int32)  : vx_Met l y_K_make k_K_make ({ frames := 7, cells := 1, slots := 6, locals := 105 } : Room) (va_Pc [.ref h0] (fun U => pc_E (dC, dI) [(h0, .inr (0, [v_documents, v_buffer, v_fetched, v_compared, v_maker, v_writer, .ref hp, .int i_madeDocuments, .int i_fetchedSteps])), (hp, .inr (4, [.int 1, .int p_i_going, .int p_i_writesLeft]))] [] sz U ∧ tw_ok U)) (va_Qi (fun (_ : Int32) (_ : Unit) => False) (fun _ _ => True) (va_A [(h0, .inr (0, [v_documents, v_buffer, v_fetched, v_compared, v_maker, v_writer, .ref hp, .int i_madeDocuments, .int i_fetchedSteps])), (hp, .inr (4, [.int 1, .int p_i_going, .int p_i_writesLeft]))] sz)) (vx_X (fun _ : Unit => True) (fun E _ t => E = "java/lang/IllegalStateException" ∧ at_E (dC, dI) (va_A [(h0, .inr (0, [v_documents, v_buffer, v_fetched, v_compared, v_maker, v_writer, .ref hp, .int i_madeDocuments, .int i_fetchedSteps])), (hp, .inr (4, [.int 1, .int p_i_going, .int p_i_writesLeft]))] sz) [(h0, .inr (0, [v_documents, v_buffer, v_fetched, v_compared, v_maker, v_writer, .ref hp, .int i_madeDocuments, .int i_fetchedSteps])), (hp, .inr (4, [.int 1, .int p_i_going, .int p_i_writesLeft]))] [] t) (va_A [(h0, .inr (0, [v_documents, v_buffer, v_fetched, v_compared, v_maker, v_writer, .ref hp, .int i_madeDocuments, .int i_fetchedSteps])), (hp, .inr (4, [.int 1, .int p_i_going, .int p_i_writesLeft]))] sz)) 1 6 (va_A [(h0, .inr (0, [v_documents, v_buffer, v_fetched, v_compared, v_maker, v_writer, .ref hp, .int i_madeDocuments, .int i_fetchedSteps])), (hp, .inr (4, [.int 1, .int p_i_going, .int p_i_writesLeft]))] sz) := by
  refine vx_ofW (cc := prog_1_method_4_code) (maxL := 2) (ret := (some .int)) (by decide) rfl ?_
  intro p e s m args below meth c s₁ B hml htab hv
  obtain ⟨rfl, ⟨hsz, hP, hK, hD0, hN⟩, hTw⟩ := hv
  have hx := B.exec
  have hb := B.bytes
  have hr := B.returns
  have hts := atoms_spec (ws := k_K_make) B.pre
  have hw0 : ∀ w ∈ w0, w.before _ s = true := fun w h => hts w (List.mem_cons_of_mem _ h)
  have hown : s.vm.findClass R_K = some m.cls := findClass_of_methodNamed B.named
  have hlocks := B.notSynchronized
  subst hsz
  have hD := hD0.self (sz := s.heap.size)
  have hTwA := tw_A hTw hP
  generalize hAe : va_A [(h0, .inr (0, [v_documents, v_buffer, v_fetched, v_compared, v_maker, v_writer, .ref hp, .int i_madeDocuments, .int i_fetchedSteps])), (hp, .inr (4, [.int 1, .int p_i_going, .int p_i_writesLeft]))] s.heap.size = A at hD hTwA ⊢
  have hA : ∀ q : Nat, s.heap.size ≤ q → A q := fun q h => by rw [← hAe]; exact Or.inr h
  have hS : va_S A s.heap s.heap [] := va_S.rf
  have hP : va_P (dC, dI) vwCl [(h0, .inr (0, [v_documents, v_buffer, v_fetched, v_compared, v_maker, v_writer, .ref hp, .int i_madeDocuments, .int i_fetchedSteps])), (hp, .inr (4, [.int 1, .int p_i_going, .int p_i_writesLeft]))] s.heap := hP
  have hl := lv_entry ([.ref h0]) (n := 2) (Nat.le_of_ble_eq_true rfl)
  rw [lg_entry_eq]
  generalize (lg_sl ([.ref h0]) ++ List.replicate (2 - (lg_sl ([.ref h0])).length) Slot.unset).toArray = ls at hl ⊢
  have hl : lv_has ls 2 [(0, .ref h0)] := hl
  refine lv_aload_n hx hb d_K_make_0 rfl (lv_at hl 0 rfl) ?_
  have hPc := hP.sub (ws' := [(h0, .inr (0, [v_documents, v_buffer, v_fetched, v_compared, v_maker, v_writer, .ref hp, .int i_madeDocuments, .int i_fetchedSteps])), (hp, .inr (4, [.int 1, .int p_i_going, .int p_i_writesLeft]))]) [0, 1] rfl
  have hKc := hK.sub (tys' := []) [] rfl
  have hDc := hD.sub (ws' := [(h0, .inr (0, [v_documents, v_buffer, v_fetched, v_compared, v_maker, v_writer, .ref hp, .int i_madeDocuments, .int i_fetchedSteps])), (hp, .inr (4, [.int 1, .int p_i_going, .int p_i_writesLeft]))]) [0, 1] (by decide) rfl
  have hFc := va_free (wc := [(h0, .inr (0, [v_documents, v_buffer, v_fetched, v_compared, v_maker, v_writer, .ref hp, .int i_madeDocuments, .int i_fetchedSteps])), (hp, .inr (4, [.int 1, .int p_i_going, .int p_i_writesLeft]))]) hD hS hA [0, 1] rfl
  refine vx_callv (vx_runV (As := []) (rest := []) ⟨hx, hb, hml, hown, hw0⟩ (x_needPower l hl9 dC dI s.heap.size h0 v_documents v_buffer v_fetched v_compared v_maker v_writer i_madeDocuments i_fetchedSteps hp p_i_going p_i_writesLeft ) (cwV 0 hw0 (gd_V 322 323 324 226 325 rfl rfl rfl rfl rfl) rfl rfl rfl (by decide +kernel) ⟨by decide +kernel, by decide +kernel⟩) (prV_X hPc hKc hDc hN (hTwA.at hS) (va_recv hKc hPc (ci := 0) (q0 := 0) rfl rfl)) rfl rfl hl.1 rfl (lv_room (Nat.le_of_ble_eq_true rfl)) d_K_make_1 ⟨by decide +kernel, by decide +kernel⟩) hS (fun q _ h => hFc q h) hFc (fun q _ h => hFc q h) (fun E ce q9 u t H1 locs ht hvm hw hB hz1 hk1 hS hce hcv hcl => ?_) (fun u t H1 locs ht hvm hw hB hz1 hk1 hS => False.elim hw)
  obtain ⟨rfl, hP1, hK1, hD1⟩ := hB
  rw [ht] at hP1
  have hK1 := va_K.moved hvm.symm hK1
  obtain ⟨hP, hD⟩ := va_join (wr := []) (w1 := [(h0, .inr (0, [v_documents, v_buffer, v_fetched, v_compared, v_maker, v_writer, .ref hp, .int i_madeDocuments, .int i_fetchedSteps])), (hp, .inr (4, [.int 1, .int p_i_going, .int p_i_writesLeft]))]) hP hD [0, 1] [] rfl rfl (by decide) (by decide) hk1 hFc hP1 hD1
  generalize H1 = H at hP hS hce ⊢
  replace hP : va_P (dC, dI) vwCl [(h0, .inr (0, [v_documents, v_buffer, v_fetched, v_compared, v_maker, v_writer, .ref hp, .int i_madeDocuments, .int i_fetchedSteps])), (hp, .inr (4, [.int 1, .int p_i_going, .int p_i_writesLeft]))] H := hP
  replace hD : va_D A [(h0, .inr (0, [v_documents, v_buffer, v_fetched, v_compared, v_maker, v_writer, .ref hp, .int i_madeDocuments, .int i_fetchedSteps])), (hp, .inr (4, [.int 1, .int p_i_going, .int p_i_writesLeft]))] := hD
  have hP9 := hP.sub (ws' := [(h0, .inr (0, [v_documents, v_buffer, v_fetched, v_compared, v_maker, v_writer, .ref hp, .int i_madeDocuments, .int i_fetchedSteps])), (hp, .inr (4, [.int 1, .int p_i_going, .int p_i_writesLeft]))]) [0, 1] rfl
  have hD9 := hD.sub (ws' := [(h0, .inr (0, [v_documents, v_buffer, v_fetched, v_compared, v_maker, v_writer, .ref hp, .int i_madeDocuments, .int i_fetchedSteps])), (hp, .inr (4, [.int 1, .int p_i_going, .int p_i_writesLeft]))]) [0, 1] (by decide) rfl
  have hK9 := hK.sub (tys' := []) [] rfl
  exact vx_out (fun x hx => (htab x hx).elim) hlocks hce hcv hcl (fun t ht hvm => ⟨(), trivial, ⟨rfl, by rw [ht]; exact hP9, va_K.moved hvm hK9, hD9⟩, hS.F ht⟩) hS.2.2 (by decide +kernel) (by decide +kernel)
set_option maxHeartbeats 4000000 in
set_option maxRecDepth 100000 in
theorem x_commit_D (l : Launch) (hl9 : l.stackTraces = false) (dC : Nat → ClassId) (dI : Nat → Nat → Nat) (sz : Nat) (h0 : Nat) (v_documents : Value) (v_buffer : Value) (v_fetched : Value) (v_compared : Value) (v_maker : Value) (v_writer : Value) (i_madeDocuments : Int32) (i_fetchedSteps : Int32) (hp : Nat) (p_i_going : Int32) (p_i_writesLeft : Int32) (a1 : Int32) (a2 : Int32)  : vx_Met l y_K_commit k_K_commit ({ frames := 7, cells := 1, slots := 6, locals := 105 } : Room) (va_Pc [.ref h0, .int a1, .int a2] (fun U => pc_E (dC, dI) [(h0, .inr (0, [v_documents, v_buffer, v_fetched, v_compared, v_maker, v_writer, .ref hp, .int i_madeDocuments, .int i_fetchedSteps])), (hp, .inr (4, [.int 1, .int p_i_going, .int p_i_writesLeft]))] [] sz U ∧ tw_ok U)) (va_Qi (fun (_ : Int32) (_ : Unit) => False) (fun _ _ => True) (va_A [(h0, .inr (0, [v_documents, v_buffer, v_fetched, v_compared, v_maker, v_writer, .ref hp, .int i_madeDocuments, .int i_fetchedSteps])), (hp, .inr (4, [.int 1, .int p_i_going, .int p_i_writesLeft]))] sz)) (vx_X (fun _ : Unit => True) (fun E _ t => E = "java/lang/IllegalStateException" ∧ at_E (dC, dI) (va_A [(h0, .inr (0, [v_documents, v_buffer, v_fetched, v_compared, v_maker, v_writer, .ref hp, .int i_madeDocuments, .int i_fetchedSteps])), (hp, .inr (4, [.int 1, .int p_i_going, .int p_i_writesLeft]))] sz) [(h0, .inr (0, [v_documents, v_buffer, v_fetched, v_compared, v_maker, v_writer, .ref hp, .int i_madeDocuments, .int i_fetchedSteps])), (hp, .inr (4, [.int 1, .int p_i_going, .int p_i_writesLeft]))] [] t) (va_A [(h0, .inr (0, [v_documents, v_buffer, v_fetched, v_compared, v_maker, v_writer, .ref hp, .int i_madeDocuments, .int i_fetchedSteps])), (hp, .inr (4, [.int 1, .int p_i_going, .int p_i_writesLeft]))] sz)) 1 6 (va_A [(h0, .inr (0, [v_documents, v_buffer, v_fetched, v_compared, v_maker, v_writer, .ref hp, .int i_madeDocuments, .int i_fetchedSteps])), (hp, .inr (4, [.int 1, .int p_i_going, .int p_i_writesLeft]))] sz) := by
  refine vx_ofW (cc := prog_1_method_5_code) (maxL := 7) (ret := (some .int)) (by decide) rfl ?_
  intro p e s m args below meth c s₁ B hml htab hv
  obtain ⟨rfl, ⟨hsz, hP, hK, hD0, hN⟩, hTw⟩ := hv
  have hx := B.exec
  have hb := B.bytes
  have hr := B.returns
  have hts := atoms_spec (ws := k_K_commit) B.pre
  have hw0 : ∀ w ∈ w0, w.before _ s = true := fun w h => hts w (List.mem_cons_of_mem _ h)
  have hown : s.vm.findClass R_K = some m.cls := findClass_of_methodNamed B.named
  have hlocks := B.notSynchronized
  subst hsz
  have hD := hD0.self (sz := s.heap.size)
  have hTwA := tw_A hTw hP
  generalize hAe : va_A [(h0, .inr (0, [v_documents, v_buffer, v_fetched, v_compared, v_maker, v_writer, .ref hp, .int i_madeDocuments, .int i_fetchedSteps])), (hp, .inr (4, [.int 1, .int p_i_going, .int p_i_writesLeft]))] s.heap.size = A at hD hTwA ⊢
  have hA : ∀ q : Nat, s.heap.size ≤ q → A q := fun q h => by rw [← hAe]; exact Or.inr h
  have hS : va_S A s.heap s.heap [] := va_S.rf
  have hP : va_P (dC, dI) vwCl [(h0, .inr (0, [v_documents, v_buffer, v_fetched, v_compared, v_maker, v_writer, .ref hp, .int i_madeDocuments, .int i_fetchedSteps])), (hp, .inr (4, [.int 1, .int p_i_going, .int p_i_writesLeft]))] s.heap := hP
  have hl := lv_entry ([.ref h0, .int a1, .int a2]) (n := 7) (Nat.le_of_ble_eq_true rfl)
  rw [lg_entry_eq]
  generalize (lg_sl ([.ref h0, .int a1, .int a2]) ++ List.replicate (7 - (lg_sl ([.ref h0, .int a1, .int a2])).length) Slot.unset).toArray = ls at hl ⊢
  have hl : lv_has ls 7 [(0, .ref h0), (1, .int a1), (2, .int a2)] := hl
  refine lv_aload_n hx hb d_K_commit_0 rfl (lv_at hl 0 rfl) ?_
  have hPc := hP.sub (ws' := [(h0, .inr (0, [v_documents, v_buffer, v_fetched, v_compared, v_maker, v_writer, .ref hp, .int i_madeDocuments, .int i_fetchedSteps])), (hp, .inr (4, [.int 1, .int p_i_going, .int p_i_writesLeft]))]) [0, 1] rfl
  have hKc := hK.sub (tys' := []) [] rfl
  have hDc := hD.sub (ws' := [(h0, .inr (0, [v_documents, v_buffer, v_fetched, v_compared, v_maker, v_writer, .ref hp, .int i_madeDocuments, .int i_fetchedSteps])), (hp, .inr (4, [.int 1, .int p_i_going, .int p_i_writesLeft]))]) [0, 1] (by decide) rfl
  have hFc := va_free (wc := [(h0, .inr (0, [v_documents, v_buffer, v_fetched, v_compared, v_maker, v_writer, .ref hp, .int i_madeDocuments, .int i_fetchedSteps])), (hp, .inr (4, [.int 1, .int p_i_going, .int p_i_writesLeft]))]) hD hS hA [0, 1] rfl
  refine vx_callv (vx_runV (As := []) (rest := []) ⟨hx, hb, hml, hown, hw0⟩ (x_needPower l hl9 dC dI s.heap.size h0 v_documents v_buffer v_fetched v_compared v_maker v_writer i_madeDocuments i_fetchedSteps hp p_i_going p_i_writesLeft ) (cwV 0 hw0 (gd_V 322 323 324 226 325 rfl rfl rfl rfl rfl) rfl rfl rfl (by decide +kernel) ⟨by decide +kernel, by decide +kernel⟩) (prV_X hPc hKc hDc hN (hTwA.at hS) (va_recv hKc hPc (ci := 0) (q0 := 0) rfl rfl)) rfl rfl hl.1 rfl (lv_room (Nat.le_of_ble_eq_true rfl)) d_K_commit_1 ⟨by decide +kernel, by decide +kernel⟩) hS (fun q _ h => hFc q h) hFc (fun q _ h => hFc q h) (fun E ce q9 u t H1 locs ht hvm hw hB hz1 hk1 hS hce hcv hcl => ?_) (fun u t H1 locs ht hvm hw hB hz1 hk1 hS => False.elim hw)
  obtain ⟨rfl, hP1, hK1, hD1⟩ := hB
  rw [ht] at hP1
  have hK1 := va_K.moved hvm.symm hK1
  obtain ⟨hP, hD⟩ := va_join (wr := []) (w1 := [(h0, .inr (0, [v_documents, v_buffer, v_fetched, v_compared, v_maker, v_writer, .ref hp, .int i_madeDocuments, .int i_fetchedSteps])), (hp, .inr (4, [.int 1, .int p_i_going, .int p_i_writesLeft]))]) hP hD [0, 1] [] rfl rfl (by decide) (by decide) hk1 hFc hP1 hD1
  generalize H1 = H at hP hS hce ⊢
  replace hP : va_P (dC, dI) vwCl [(h0, .inr (0, [v_documents, v_buffer, v_fetched, v_compared, v_maker, v_writer, .ref hp, .int i_madeDocuments, .int i_fetchedSteps])), (hp, .inr (4, [.int 1, .int p_i_going, .int p_i_writesLeft]))] H := hP
  replace hD : va_D A [(h0, .inr (0, [v_documents, v_buffer, v_fetched, v_compared, v_maker, v_writer, .ref hp, .int i_madeDocuments, .int i_fetchedSteps])), (hp, .inr (4, [.int 1, .int p_i_going, .int p_i_writesLeft]))] := hD
  have hP9 := hP.sub (ws' := [(h0, .inr (0, [v_documents, v_buffer, v_fetched, v_compared, v_maker, v_writer, .ref hp, .int i_madeDocuments, .int i_fetchedSteps])), (hp, .inr (4, [.int 1, .int p_i_going, .int p_i_writesLeft]))]) [0, 1] rfl
  have hD9 := hD.sub (ws' := [(h0, .inr (0, [v_documents, v_buffer, v_fetched, v_compared, v_maker, v_writer, .ref hp, .int i_madeDocuments, .int i_fetchedSteps])), (hp, .inr (4, [.int 1, .int p_i_going, .int p_i_writesLeft]))]) [0, 1] (by decide) rfl
  have hK9 := hK.sub (tys' := []) [] rfl
  exact vx_out (fun x hx => (htab x hx).elim) hlocks hce hcv hcl (fun t ht hvm => ⟨(), trivial, ⟨rfl, by rw [ht]; exact hP9, va_K.moved hvm hK9, hD9⟩, hS.F ht⟩) hS.2.2 (by decide +kernel) (by decide +kernel)
set_option maxHeartbeats 4000000 in
set_option maxRecDepth 100000 in
theorem x_fetch_D (l : Launch) (hl9 : l.stackTraces = false) (dC : Nat → ClassId) (dI : Nat → Nat → Nat) (sz : Nat) (h0 : Nat) (v_documents : Value) (v_buffer : Value) (v_fetched : Value) (v_compared : Value) (v_maker : Value) (v_writer : Value) (i_madeDocuments : Int32) (i_fetchedSteps : Int32) (hp : Nat) (p_i_going : Int32) (p_i_writesLeft : Int32) (a1 : Int32) (a2 : Int32)  : vx_Met l y_K_fetch k_K_fetch ({ frames := 7, cells := 1, slots := 6, locals := 105 } : Room) (va_Pc [.ref h0, .int a1, .int a2] (fun U => pc_E (dC, dI) [(h0, .inr (0, [v_documents, v_buffer, v_fetched, v_compared, v_maker, v_writer, .ref hp, .int i_madeDocuments, .int i_fetchedSteps])), (hp, .inr (4, [.int 1, .int p_i_going, .int p_i_writesLeft]))] [] sz U ∧ tw_ok U)) (va_Qi (fun (_ : Int32) (_ : Unit) => False) (fun _ _ => True) (va_A [(h0, .inr (0, [v_documents, v_buffer, v_fetched, v_compared, v_maker, v_writer, .ref hp, .int i_madeDocuments, .int i_fetchedSteps])), (hp, .inr (4, [.int 1, .int p_i_going, .int p_i_writesLeft]))] sz)) (vx_X (fun _ : Unit => True) (fun E _ t => E = "java/lang/IllegalStateException" ∧ at_E (dC, dI) (va_A [(h0, .inr (0, [v_documents, v_buffer, v_fetched, v_compared, v_maker, v_writer, .ref hp, .int i_madeDocuments, .int i_fetchedSteps])), (hp, .inr (4, [.int 1, .int p_i_going, .int p_i_writesLeft]))] sz) [(h0, .inr (0, [v_documents, v_buffer, v_fetched, v_compared, v_maker, v_writer, .ref hp, .int i_madeDocuments, .int i_fetchedSteps])), (hp, .inr (4, [.int 1, .int p_i_going, .int p_i_writesLeft]))] [] t) (va_A [(h0, .inr (0, [v_documents, v_buffer, v_fetched, v_compared, v_maker, v_writer, .ref hp, .int i_madeDocuments, .int i_fetchedSteps])), (hp, .inr (4, [.int 1, .int p_i_going, .int p_i_writesLeft]))] sz)) 1 6 (va_A [(h0, .inr (0, [v_documents, v_buffer, v_fetched, v_compared, v_maker, v_writer, .ref hp, .int i_madeDocuments, .int i_fetchedSteps])), (hp, .inr (4, [.int 1, .int p_i_going, .int p_i_writesLeft]))] sz) := by
  refine vx_ofW (cc := prog_1_method_6_code) (maxL := 5) (ret := (some .int)) (by decide) rfl ?_
  intro p e s m args below meth c s₁ B hml htab hv
  obtain ⟨rfl, ⟨hsz, hP, hK, hD0, hN⟩, hTw⟩ := hv
  have hx := B.exec
  have hb := B.bytes
  have hr := B.returns
  have hts := atoms_spec (ws := k_K_fetch) B.pre
  have hw0 : ∀ w ∈ w0, w.before _ s = true := fun w h => hts w (List.mem_cons_of_mem _ h)
  have hown : s.vm.findClass R_K = some m.cls := findClass_of_methodNamed B.named
  have hlocks := B.notSynchronized
  subst hsz
  have hD := hD0.self (sz := s.heap.size)
  have hTwA := tw_A hTw hP
  generalize hAe : va_A [(h0, .inr (0, [v_documents, v_buffer, v_fetched, v_compared, v_maker, v_writer, .ref hp, .int i_madeDocuments, .int i_fetchedSteps])), (hp, .inr (4, [.int 1, .int p_i_going, .int p_i_writesLeft]))] s.heap.size = A at hD hTwA ⊢
  have hA : ∀ q : Nat, s.heap.size ≤ q → A q := fun q h => by rw [← hAe]; exact Or.inr h
  have hS : va_S A s.heap s.heap [] := va_S.rf
  have hP : va_P (dC, dI) vwCl [(h0, .inr (0, [v_documents, v_buffer, v_fetched, v_compared, v_maker, v_writer, .ref hp, .int i_madeDocuments, .int i_fetchedSteps])), (hp, .inr (4, [.int 1, .int p_i_going, .int p_i_writesLeft]))] s.heap := hP
  have hl := lv_entry ([.ref h0, .int a1, .int a2]) (n := 5) (Nat.le_of_ble_eq_true rfl)
  rw [lg_entry_eq]
  generalize (lg_sl ([.ref h0, .int a1, .int a2]) ++ List.replicate (5 - (lg_sl ([.ref h0, .int a1, .int a2])).length) Slot.unset).toArray = ls at hl ⊢
  have hl : lv_has ls 5 [(0, .ref h0), (1, .int a1), (2, .int a2)] := hl
  refine lv_aload_n hx hb d_K_fetch_0 rfl (lv_at hl 0 rfl) ?_
  have hPc := hP.sub (ws' := [(h0, .inr (0, [v_documents, v_buffer, v_fetched, v_compared, v_maker, v_writer, .ref hp, .int i_madeDocuments, .int i_fetchedSteps])), (hp, .inr (4, [.int 1, .int p_i_going, .int p_i_writesLeft]))]) [0, 1] rfl
  have hKc := hK.sub (tys' := []) [] rfl
  have hDc := hD.sub (ws' := [(h0, .inr (0, [v_documents, v_buffer, v_fetched, v_compared, v_maker, v_writer, .ref hp, .int i_madeDocuments, .int i_fetchedSteps])), (hp, .inr (4, [.int 1, .int p_i_going, .int p_i_writesLeft]))]) [0, 1] (by decide) rfl
  have hFc := va_free (wc := [(h0, .inr (0, [v_documents, v_buffer, v_fetched, v_compared, v_maker, v_writer, .ref hp, .int i_madeDocuments, .int i_fetchedSteps])), (hp, .inr (4, [.int 1, .int p_i_going, .int p_i_writesLeft]))]) hD hS hA [0, 1] rfl
  refine vx_callv (vx_runV (As := []) (rest := []) ⟨hx, hb, hml, hown, hw0⟩ (x_needPower l hl9 dC dI s.heap.size h0 v_documents v_buffer v_fetched v_compared v_maker v_writer i_madeDocuments i_fetchedSteps hp p_i_going p_i_writesLeft ) (cwV 0 hw0 (gd_V 322 323 324 226 325 rfl rfl rfl rfl rfl) rfl rfl rfl (by decide +kernel) ⟨by decide +kernel, by decide +kernel⟩) (prV_X hPc hKc hDc hN (hTwA.at hS) (va_recv hKc hPc (ci := 0) (q0 := 0) rfl rfl)) rfl rfl hl.1 rfl (lv_room (Nat.le_of_ble_eq_true rfl)) d_K_fetch_1 ⟨by decide +kernel, by decide +kernel⟩) hS (fun q _ h => hFc q h) hFc (fun q _ h => hFc q h) (fun E ce q9 u t H1 locs ht hvm hw hB hz1 hk1 hS hce hcv hcl => ?_) (fun u t H1 locs ht hvm hw hB hz1 hk1 hS => False.elim hw)
  obtain ⟨rfl, hP1, hK1, hD1⟩ := hB
  rw [ht] at hP1
  have hK1 := va_K.moved hvm.symm hK1
  obtain ⟨hP, hD⟩ := va_join (wr := []) (w1 := [(h0, .inr (0, [v_documents, v_buffer, v_fetched, v_compared, v_maker, v_writer, .ref hp, .int i_madeDocuments, .int i_fetchedSteps])), (hp, .inr (4, [.int 1, .int p_i_going, .int p_i_writesLeft]))]) hP hD [0, 1] [] rfl rfl (by decide) (by decide) hk1 hFc hP1 hD1
  generalize H1 = H at hP hS hce ⊢
  replace hP : va_P (dC, dI) vwCl [(h0, .inr (0, [v_documents, v_buffer, v_fetched, v_compared, v_maker, v_writer, .ref hp, .int i_madeDocuments, .int i_fetchedSteps])), (hp, .inr (4, [.int 1, .int p_i_going, .int p_i_writesLeft]))] H := hP
  replace hD : va_D A [(h0, .inr (0, [v_documents, v_buffer, v_fetched, v_compared, v_maker, v_writer, .ref hp, .int i_madeDocuments, .int i_fetchedSteps])), (hp, .inr (4, [.int 1, .int p_i_going, .int p_i_writesLeft]))] := hD
  have hP9 := hP.sub (ws' := [(h0, .inr (0, [v_documents, v_buffer, v_fetched, v_compared, v_maker, v_writer, .ref hp, .int i_madeDocuments, .int i_fetchedSteps])), (hp, .inr (4, [.int 1, .int p_i_going, .int p_i_writesLeft]))]) [0, 1] rfl
  have hD9 := hD.sub (ws' := [(h0, .inr (0, [v_documents, v_buffer, v_fetched, v_compared, v_maker, v_writer, .ref hp, .int i_madeDocuments, .int i_fetchedSteps])), (hp, .inr (4, [.int 1, .int p_i_going, .int p_i_writesLeft]))]) [0, 1] (by decide) rfl
  have hK9 := hK.sub (tys' := []) [] rfl
  exact vx_out (fun x hx => (htab x hx).elim) hlocks hce hcv hcl (fun t ht hvm => ⟨(), trivial, ⟨rfl, by rw [ht]; exact hP9, va_K.moved hvm hK9, hD9⟩, hS.F ht⟩) hS.2.2 (by decide +kernel) (by decide +kernel)
set_option maxHeartbeats 4000000 in
set_option maxRecDepth 100000 in
theorem x_out_D (l : Launch) (hl9 : l.stackTraces = false) (dC : Nat → ClassId) (dI : Nat → Nat → Nat) (sz : Nat) (h0 : Nat) (v_documents : Value) (v_buffer : Value) (v_fetched : Value) (v_compared : Value) (v_maker : Value) (v_writer : Value) (i_madeDocuments : Int32) (i_fetchedSteps : Int32) (hp : Nat) (p_i_going : Int32) (p_i_writesLeft : Int32) (a1 : Int32)  : vx_Met l y_K_out k_K_out ({ frames := 7, cells := 1, slots := 6, locals := 105 } : Room) (va_Pc [.ref h0, .int a1] (fun U => pc_E (dC, dI) [(h0, .inr (0, [v_documents, v_buffer, v_fetched, v_compared, v_maker, v_writer, .ref hp, .int i_madeDocuments, .int i_fetchedSteps])), (hp, .inr (4, [.int 1, .int p_i_going, .int p_i_writesLeft]))] [] sz U ∧ tw_ok U)) (va_Qi (fun (_ : Int32) (_ : Unit) => False) (fun _ _ => True) (va_A [(h0, .inr (0, [v_documents, v_buffer, v_fetched, v_compared, v_maker, v_writer, .ref hp, .int i_madeDocuments, .int i_fetchedSteps])), (hp, .inr (4, [.int 1, .int p_i_going, .int p_i_writesLeft]))] sz)) (vx_X (fun _ : Unit => True) (fun E _ t => E = "java/lang/IllegalStateException" ∧ at_E (dC, dI) (va_A [(h0, .inr (0, [v_documents, v_buffer, v_fetched, v_compared, v_maker, v_writer, .ref hp, .int i_madeDocuments, .int i_fetchedSteps])), (hp, .inr (4, [.int 1, .int p_i_going, .int p_i_writesLeft]))] sz) [(h0, .inr (0, [v_documents, v_buffer, v_fetched, v_compared, v_maker, v_writer, .ref hp, .int i_madeDocuments, .int i_fetchedSteps])), (hp, .inr (4, [.int 1, .int p_i_going, .int p_i_writesLeft]))] [] t) (va_A [(h0, .inr (0, [v_documents, v_buffer, v_fetched, v_compared, v_maker, v_writer, .ref hp, .int i_madeDocuments, .int i_fetchedSteps])), (hp, .inr (4, [.int 1, .int p_i_going, .int p_i_writesLeft]))] sz)) 1 6 (va_A [(h0, .inr (0, [v_documents, v_buffer, v_fetched, v_compared, v_maker, v_writer, .ref hp, .int i_madeDocuments, .int i_fetchedSteps])), (hp, .inr (4, [.int 1, .int p_i_going, .int p_i_writesLeft]))] sz) := by
  refine vx_ofW (cc := prog_1_method_7_code) (maxL := 2) (ret := (some .int)) (by decide) rfl ?_
  intro p e s m args below meth c s₁ B hml htab hv
  obtain ⟨rfl, ⟨hsz, hP, hK, hD0, hN⟩, hTw⟩ := hv
  have hx := B.exec
  have hb := B.bytes
  have hr := B.returns
  have hts := atoms_spec (ws := k_K_out) B.pre
  have hw0 : ∀ w ∈ w0, w.before _ s = true := fun w h => hts w (List.mem_cons_of_mem _ h)
  have hown : s.vm.findClass R_K = some m.cls := findClass_of_methodNamed B.named
  have hlocks := B.notSynchronized
  subst hsz
  have hD := hD0.self (sz := s.heap.size)
  have hTwA := tw_A hTw hP
  generalize hAe : va_A [(h0, .inr (0, [v_documents, v_buffer, v_fetched, v_compared, v_maker, v_writer, .ref hp, .int i_madeDocuments, .int i_fetchedSteps])), (hp, .inr (4, [.int 1, .int p_i_going, .int p_i_writesLeft]))] s.heap.size = A at hD hTwA ⊢
  have hA : ∀ q : Nat, s.heap.size ≤ q → A q := fun q h => by rw [← hAe]; exact Or.inr h
  have hS : va_S A s.heap s.heap [] := va_S.rf
  have hP : va_P (dC, dI) vwCl [(h0, .inr (0, [v_documents, v_buffer, v_fetched, v_compared, v_maker, v_writer, .ref hp, .int i_madeDocuments, .int i_fetchedSteps])), (hp, .inr (4, [.int 1, .int p_i_going, .int p_i_writesLeft]))] s.heap := hP
  have hl := lv_entry ([.ref h0, .int a1]) (n := 2) (Nat.le_of_ble_eq_true rfl)
  rw [lg_entry_eq]
  generalize (lg_sl ([.ref h0, .int a1]) ++ List.replicate (2 - (lg_sl ([.ref h0, .int a1])).length) Slot.unset).toArray = ls at hl ⊢
  have hl : lv_has ls 2 [(0, .ref h0), (1, .int a1)] := hl
  refine lv_aload_n hx hb d_K_out_0 rfl (lv_at hl 0 rfl) ?_
  have hPc := hP.sub (ws' := [(h0, .inr (0, [v_documents, v_buffer, v_fetched, v_compared, v_maker, v_writer, .ref hp, .int i_madeDocuments, .int i_fetchedSteps])), (hp, .inr (4, [.int 1, .int p_i_going, .int p_i_writesLeft]))]) [0, 1] rfl
  have hKc := hK.sub (tys' := []) [] rfl
  have hDc := hD.sub (ws' := [(h0, .inr (0, [v_documents, v_buffer, v_fetched, v_compared, v_maker, v_writer, .ref hp, .int i_madeDocuments, .int i_fetchedSteps])), (hp, .inr (4, [.int 1, .int p_i_going, .int p_i_writesLeft]))]) [0, 1] (by decide) rfl
  have hFc := va_free (wc := [(h0, .inr (0, [v_documents, v_buffer, v_fetched, v_compared, v_maker, v_writer, .ref hp, .int i_madeDocuments, .int i_fetchedSteps])), (hp, .inr (4, [.int 1, .int p_i_going, .int p_i_writesLeft]))]) hD hS hA [0, 1] rfl
  refine vx_callv (vx_runV (As := []) (rest := []) ⟨hx, hb, hml, hown, hw0⟩ (x_needPower l hl9 dC dI s.heap.size h0 v_documents v_buffer v_fetched v_compared v_maker v_writer i_madeDocuments i_fetchedSteps hp p_i_going p_i_writesLeft ) (cwV 0 hw0 (gd_V 322 323 324 226 325 rfl rfl rfl rfl rfl) rfl rfl rfl (by decide +kernel) ⟨by decide +kernel, by decide +kernel⟩) (prV_X hPc hKc hDc hN (hTwA.at hS) (va_recv hKc hPc (ci := 0) (q0 := 0) rfl rfl)) rfl rfl hl.1 rfl (lv_room (Nat.le_of_ble_eq_true rfl)) d_K_out_1 ⟨by decide +kernel, by decide +kernel⟩) hS (fun q _ h => hFc q h) hFc (fun q _ h => hFc q h) (fun E ce q9 u t H1 locs ht hvm hw hB hz1 hk1 hS hce hcv hcl => ?_) (fun u t H1 locs ht hvm hw hB hz1 hk1 hS => False.elim hw)
  obtain ⟨rfl, hP1, hK1, hD1⟩ := hB
  rw [ht] at hP1
  have hK1 := va_K.moved hvm.symm hK1
  obtain ⟨hP, hD⟩ := va_join (wr := []) (w1 := [(h0, .inr (0, [v_documents, v_buffer, v_fetched, v_compared, v_maker, v_writer, .ref hp, .int i_madeDocuments, .int i_fetchedSteps])), (hp, .inr (4, [.int 1, .int p_i_going, .int p_i_writesLeft]))]) hP hD [0, 1] [] rfl rfl (by decide) (by decide) hk1 hFc hP1 hD1
  generalize H1 = H at hP hS hce ⊢
  replace hP : va_P (dC, dI) vwCl [(h0, .inr (0, [v_documents, v_buffer, v_fetched, v_compared, v_maker, v_writer, .ref hp, .int i_madeDocuments, .int i_fetchedSteps])), (hp, .inr (4, [.int 1, .int p_i_going, .int p_i_writesLeft]))] H := hP
  replace hD : va_D A [(h0, .inr (0, [v_documents, v_buffer, v_fetched, v_compared, v_maker, v_writer, .ref hp, .int i_madeDocuments, .int i_fetchedSteps])), (hp, .inr (4, [.int 1, .int p_i_going, .int p_i_writesLeft]))] := hD
  have hP9 := hP.sub (ws' := [(h0, .inr (0, [v_documents, v_buffer, v_fetched, v_compared, v_maker, v_writer, .ref hp, .int i_madeDocuments, .int i_fetchedSteps])), (hp, .inr (4, [.int 1, .int p_i_going, .int p_i_writesLeft]))]) [0, 1] rfl
  have hD9 := hD.sub (ws' := [(h0, .inr (0, [v_documents, v_buffer, v_fetched, v_compared, v_maker, v_writer, .ref hp, .int i_madeDocuments, .int i_fetchedSteps])), (hp, .inr (4, [.int 1, .int p_i_going, .int p_i_writesLeft]))]) [0, 1] (by decide) rfl
  have hK9 := hK.sub (tys' := []) [] rfl
  exact vx_out (fun x hx => (htab x hx).elim) hlocks hce hcv hcl (fun t ht hvm => ⟨(), trivial, ⟨rfl, by rw [ht]; exact hP9, va_K.moved hvm hK9, hD9⟩, hS.F ht⟩) hS.2.2 (by decide +kernel) (by decide +kernel)
set_option maxHeartbeats 4000000 in
set_option maxRecDepth 100000 in
theorem x_steps_D (l : Launch) (hl9 : l.stackTraces = false) (dC : Nat → ClassId) (dI : Nat → Nat → Nat) (sz : Nat) (h0 : Nat) (v_documents : Value) (v_buffer : Value) (v_fetched : Value) (v_compared : Value) (v_maker : Value) (v_writer : Value) (i_madeDocuments : Int32) (i_fetchedSteps : Int32) (hp : Nat) (p_i_going : Int32) (p_i_writesLeft : Int32)  : vx_Met l y_K_steps k_K_steps ({ frames := 7, cells := 1, slots := 6, locals := 105 } : Room) (va_Pc [.ref h0] (fun U => pc_E (dC, dI) [(h0, .inr (0, [v_documents, v_buffer, v_fetched, v_compared, v_maker, v_writer, .ref hp, .int i_madeDocuments, .int i_fetchedSteps])), (hp, .inr (4, [.int 1, .int p_i_going, .int p_i_writesLeft]))] [] sz U ∧ tw_ok U)) (va_Qi (fun (_ : Int32) (_ : Unit) => False) (fun _ _ => True) (va_A [(h0, .inr (0, [v_documents, v_buffer, v_fetched, v_compared, v_maker, v_writer, .ref hp, .int i_madeDocuments, .int i_fetchedSteps])), (hp, .inr (4, [.int 1, .int p_i_going, .int p_i_writesLeft]))] sz)) (vx_X (fun _ : Unit => True) (fun E _ t => E = "java/lang/IllegalStateException" ∧ at_E (dC, dI) (va_A [(h0, .inr (0, [v_documents, v_buffer, v_fetched, v_compared, v_maker, v_writer, .ref hp, .int i_madeDocuments, .int i_fetchedSteps])), (hp, .inr (4, [.int 1, .int p_i_going, .int p_i_writesLeft]))] sz) [(h0, .inr (0, [v_documents, v_buffer, v_fetched, v_compared, v_maker, v_writer, .ref hp, .int i_madeDocuments, .int i_fetchedSteps])), (hp, .inr (4, [.int 1, .int p_i_going, .int p_i_writesLeft]))] [] t) (va_A [(h0, .inr (0, [v_documents, v_buffer, v_fetched, v_compared, v_maker, v_writer, .ref hp, .int i_madeDocuments, .int i_fetchedSteps])), (hp, .inr (4, [.int 1, .int p_i_going, .int p_i_writesLeft]))] sz)) 1 6 (va_A [(h0, .inr (0, [v_documents, v_buffer, v_fetched, v_compared, v_maker, v_writer, .ref hp, .int i_madeDocuments, .int i_fetchedSteps])), (hp, .inr (4, [.int 1, .int p_i_going, .int p_i_writesLeft]))] sz) := by
  refine vx_ofW (cc := prog_1_method_8_code) (maxL := 1) (ret := (some .int)) (by decide) rfl ?_
  intro p e s m args below meth c s₁ B hml htab hv
  obtain ⟨rfl, ⟨hsz, hP, hK, hD0, hN⟩, hTw⟩ := hv
  have hx := B.exec
  have hb := B.bytes
  have hr := B.returns
  have hts := atoms_spec (ws := k_K_steps) B.pre
  have hw0 : ∀ w ∈ w0, w.before _ s = true := fun w h => hts w (List.mem_cons_of_mem _ h)
  have hown : s.vm.findClass R_K = some m.cls := findClass_of_methodNamed B.named
  have hlocks := B.notSynchronized
  subst hsz
  have hD := hD0.self (sz := s.heap.size)
  have hTwA := tw_A hTw hP
  generalize hAe : va_A [(h0, .inr (0, [v_documents, v_buffer, v_fetched, v_compared, v_maker, v_writer, .ref hp, .int i_madeDocuments, .int i_fetchedSteps])), (hp, .inr (4, [.int 1, .int p_i_going, .int p_i_writesLeft]))] s.heap.size = A at hD hTwA ⊢
  have hA : ∀ q : Nat, s.heap.size ≤ q → A q := fun q h => by rw [← hAe]; exact Or.inr h
  have hS : va_S A s.heap s.heap [] := va_S.rf
  have hP : va_P (dC, dI) vwCl [(h0, .inr (0, [v_documents, v_buffer, v_fetched, v_compared, v_maker, v_writer, .ref hp, .int i_madeDocuments, .int i_fetchedSteps])), (hp, .inr (4, [.int 1, .int p_i_going, .int p_i_writesLeft]))] s.heap := hP
  have hl := lv_entry ([.ref h0]) (n := 1) (Nat.le_of_ble_eq_true rfl)
  rw [lg_entry_eq]
  generalize (lg_sl ([.ref h0]) ++ List.replicate (1 - (lg_sl ([.ref h0])).length) Slot.unset).toArray = ls at hl ⊢
  have hl : lv_has ls 1 [(0, .ref h0)] := hl
  refine lv_aload_n hx hb d_K_steps_0 rfl (lv_at hl 0 rfl) ?_
  have hPc := hP.sub (ws' := [(h0, .inr (0, [v_documents, v_buffer, v_fetched, v_compared, v_maker, v_writer, .ref hp, .int i_madeDocuments, .int i_fetchedSteps])), (hp, .inr (4, [.int 1, .int p_i_going, .int p_i_writesLeft]))]) [0, 1] rfl
  have hKc := hK.sub (tys' := []) [] rfl
  have hDc := hD.sub (ws' := [(h0, .inr (0, [v_documents, v_buffer, v_fetched, v_compared, v_maker, v_writer, .ref hp, .int i_madeDocuments, .int i_fetchedSteps])), (hp, .inr (4, [.int 1, .int p_i_going, .int p_i_writesLeft]))]) [0, 1] (by decide) rfl
  have hFc := va_free (wc := [(h0, .inr (0, [v_documents, v_buffer, v_fetched, v_compared, v_maker, v_writer, .ref hp, .int i_madeDocuments, .int i_fetchedSteps])), (hp, .inr (4, [.int 1, .int p_i_going, .int p_i_writesLeft]))]) hD hS hA [0, 1] rfl
  refine vx_callv (vx_runV (As := []) (rest := []) ⟨hx, hb, hml, hown, hw0⟩ (x_needPower l hl9 dC dI s.heap.size h0 v_documents v_buffer v_fetched v_compared v_maker v_writer i_madeDocuments i_fetchedSteps hp p_i_going p_i_writesLeft ) (cwV 0 hw0 (gd_V 322 323 324 226 325 rfl rfl rfl rfl rfl) rfl rfl rfl (by decide +kernel) ⟨by decide +kernel, by decide +kernel⟩) (prV_X hPc hKc hDc hN (hTwA.at hS) (va_recv hKc hPc (ci := 0) (q0 := 0) rfl rfl)) rfl rfl hl.1 rfl (lv_room (Nat.le_of_ble_eq_true rfl)) d_K_steps_1 ⟨by decide +kernel, by decide +kernel⟩) hS (fun q _ h => hFc q h) hFc (fun q _ h => hFc q h) (fun E ce q9 u t H1 locs ht hvm hw hB hz1 hk1 hS hce hcv hcl => ?_) (fun u t H1 locs ht hvm hw hB hz1 hk1 hS => False.elim hw)
  obtain ⟨rfl, hP1, hK1, hD1⟩ := hB
  rw [ht] at hP1
  have hK1 := va_K.moved hvm.symm hK1
  obtain ⟨hP, hD⟩ := va_join (wr := []) (w1 := [(h0, .inr (0, [v_documents, v_buffer, v_fetched, v_compared, v_maker, v_writer, .ref hp, .int i_madeDocuments, .int i_fetchedSteps])), (hp, .inr (4, [.int 1, .int p_i_going, .int p_i_writesLeft]))]) hP hD [0, 1] [] rfl rfl (by decide) (by decide) hk1 hFc hP1 hD1
  generalize H1 = H at hP hS hce ⊢
  replace hP : va_P (dC, dI) vwCl [(h0, .inr (0, [v_documents, v_buffer, v_fetched, v_compared, v_maker, v_writer, .ref hp, .int i_madeDocuments, .int i_fetchedSteps])), (hp, .inr (4, [.int 1, .int p_i_going, .int p_i_writesLeft]))] H := hP
  replace hD : va_D A [(h0, .inr (0, [v_documents, v_buffer, v_fetched, v_compared, v_maker, v_writer, .ref hp, .int i_madeDocuments, .int i_fetchedSteps])), (hp, .inr (4, [.int 1, .int p_i_going, .int p_i_writesLeft]))] := hD
  have hP9 := hP.sub (ws' := [(h0, .inr (0, [v_documents, v_buffer, v_fetched, v_compared, v_maker, v_writer, .ref hp, .int i_madeDocuments, .int i_fetchedSteps])), (hp, .inr (4, [.int 1, .int p_i_going, .int p_i_writesLeft]))]) [0, 1] rfl
  have hD9 := hD.sub (ws' := [(h0, .inr (0, [v_documents, v_buffer, v_fetched, v_compared, v_maker, v_writer, .ref hp, .int i_madeDocuments, .int i_fetchedSteps])), (hp, .inr (4, [.int 1, .int p_i_going, .int p_i_writesLeft]))]) [0, 1] (by decide) rfl
  have hK9 := hK.sub (tys' := []) [] rfl
  exact vx_out (fun x hx => (htab x hx).elim) hlocks hce hcv hcl (fun t ht hvm => ⟨(), trivial, ⟨rfl, by rw [ht]; exact hP9, va_K.moved hvm hK9, hD9⟩, hS.F ht⟩) hS.2.2 (by decide +kernel) (by decide +kernel)
set_option maxHeartbeats 4000000 in
set_option maxRecDepth 100000 in
theorem x_trim_D (l : Launch) (hl9 : l.stackTraces = false) (dC : Nat → ClassId) (dI : Nat → Nat → Nat) (sz : Nat) (h0 : Nat) (v_documents : Value) (v_buffer : Value) (v_fetched : Value) (v_compared : Value) (v_maker : Value) (v_writer : Value) (i_madeDocuments : Int32) (i_fetchedSteps : Int32) (hp : Nat) (p_i_going : Int32) (p_i_writesLeft : Int32) (a1 : Int32) (a2 : Int32)  : vx_Met l y_K_trim k_K_trim ({ frames := 7, cells := 1, slots := 6, locals := 105 } : Room) (va_Pc [.ref h0, .int a1, .int a2] (fun U => pc_E (dC, dI) [(h0, .inr (0, [v_documents, v_buffer, v_fetched, v_compared, v_maker, v_writer, .ref hp, .int i_madeDocuments, .int i_fetchedSteps])), (hp, .inr (4, [.int 1, .int p_i_going, .int p_i_writesLeft]))] [] sz U ∧ tw_ok U)) (va_Qi (fun (_ : Int32) (_ : Unit) => False) (fun _ _ => True) (va_A [(h0, .inr (0, [v_documents, v_buffer, v_fetched, v_compared, v_maker, v_writer, .ref hp, .int i_madeDocuments, .int i_fetchedSteps])), (hp, .inr (4, [.int 1, .int p_i_going, .int p_i_writesLeft]))] sz)) (vx_X (fun _ : Unit => True) (fun E _ t => E = "java/lang/IllegalStateException" ∧ at_E (dC, dI) (va_A [(h0, .inr (0, [v_documents, v_buffer, v_fetched, v_compared, v_maker, v_writer, .ref hp, .int i_madeDocuments, .int i_fetchedSteps])), (hp, .inr (4, [.int 1, .int p_i_going, .int p_i_writesLeft]))] sz) [(h0, .inr (0, [v_documents, v_buffer, v_fetched, v_compared, v_maker, v_writer, .ref hp, .int i_madeDocuments, .int i_fetchedSteps])), (hp, .inr (4, [.int 1, .int p_i_going, .int p_i_writesLeft]))] [] t) (va_A [(h0, .inr (0, [v_documents, v_buffer, v_fetched, v_compared, v_maker, v_writer, .ref hp, .int i_madeDocuments, .int i_fetchedSteps])), (hp, .inr (4, [.int 1, .int p_i_going, .int p_i_writesLeft]))] sz)) 1 6 (va_A [(h0, .inr (0, [v_documents, v_buffer, v_fetched, v_compared, v_maker, v_writer, .ref hp, .int i_madeDocuments, .int i_fetchedSteps])), (hp, .inr (4, [.int 1, .int p_i_going, .int p_i_writesLeft]))] sz) := by
  refine vx_ofW (cc := prog_1_method_9_code) (maxL := 4) (ret := (some .boolean)) (by decide) rfl ?_
  intro p e s m args below meth c s₁ B hml htab hv
  obtain ⟨rfl, ⟨hsz, hP, hK, hD0, hN⟩, hTw⟩ := hv
  have hx := B.exec
  have hb := B.bytes
  have hr := B.returns
  have hts := atoms_spec (ws := k_K_trim) B.pre
  have hw0 : ∀ w ∈ w0, w.before _ s = true := fun w h => hts w (List.mem_cons_of_mem _ h)
  have hown : s.vm.findClass R_K = some m.cls := findClass_of_methodNamed B.named
  have hlocks := B.notSynchronized
  subst hsz
  have hD := hD0.self (sz := s.heap.size)
  have hTwA := tw_A hTw hP
  generalize hAe : va_A [(h0, .inr (0, [v_documents, v_buffer, v_fetched, v_compared, v_maker, v_writer, .ref hp, .int i_madeDocuments, .int i_fetchedSteps])), (hp, .inr (4, [.int 1, .int p_i_going, .int p_i_writesLeft]))] s.heap.size = A at hD hTwA ⊢
  have hA : ∀ q : Nat, s.heap.size ≤ q → A q := fun q h => by rw [← hAe]; exact Or.inr h
  have hS : va_S A s.heap s.heap [] := va_S.rf
  have hP : va_P (dC, dI) vwCl [(h0, .inr (0, [v_documents, v_buffer, v_fetched, v_compared, v_maker, v_writer, .ref hp, .int i_madeDocuments, .int i_fetchedSteps])), (hp, .inr (4, [.int 1, .int p_i_going, .int p_i_writesLeft]))] s.heap := hP
  have hl := lv_entry ([.ref h0, .int a1, .int a2]) (n := 4) (Nat.le_of_ble_eq_true rfl)
  rw [lg_entry_eq]
  generalize (lg_sl ([.ref h0, .int a1, .int a2]) ++ List.replicate (4 - (lg_sl ([.ref h0, .int a1, .int a2])).length) Slot.unset).toArray = ls at hl ⊢
  have hl : lv_has ls 4 [(0, .ref h0), (1, .int a1), (2, .int a2)] := hl
  refine lv_aload_n hx hb d_K_trim_0 rfl (lv_at hl 0 rfl) ?_
  have hPc := hP.sub (ws' := [(h0, .inr (0, [v_documents, v_buffer, v_fetched, v_compared, v_maker, v_writer, .ref hp, .int i_madeDocuments, .int i_fetchedSteps])), (hp, .inr (4, [.int 1, .int p_i_going, .int p_i_writesLeft]))]) [0, 1] rfl
  have hKc := hK.sub (tys' := []) [] rfl
  have hDc := hD.sub (ws' := [(h0, .inr (0, [v_documents, v_buffer, v_fetched, v_compared, v_maker, v_writer, .ref hp, .int i_madeDocuments, .int i_fetchedSteps])), (hp, .inr (4, [.int 1, .int p_i_going, .int p_i_writesLeft]))]) [0, 1] (by decide) rfl
  have hFc := va_free (wc := [(h0, .inr (0, [v_documents, v_buffer, v_fetched, v_compared, v_maker, v_writer, .ref hp, .int i_madeDocuments, .int i_fetchedSteps])), (hp, .inr (4, [.int 1, .int p_i_going, .int p_i_writesLeft]))]) hD hS hA [0, 1] rfl
  refine vx_callv (vx_runV (As := []) (rest := []) ⟨hx, hb, hml, hown, hw0⟩ (x_needPower l hl9 dC dI s.heap.size h0 v_documents v_buffer v_fetched v_compared v_maker v_writer i_madeDocuments i_fetchedSteps hp p_i_going p_i_writesLeft ) (cwV 0 hw0 (gd_V 322 323 324 226 325 rfl rfl rfl rfl rfl) rfl rfl rfl (by decide +kernel) ⟨by decide +kernel, by decide +kernel⟩) (prV_X hPc hKc hDc hN (hTwA.at hS) (va_recv hKc hPc (ci := 0) (q0 := 0) rfl rfl)) rfl rfl hl.1 rfl (lv_room (Nat.le_of_ble_eq_true rfl)) d_K_trim_1 ⟨by decide +kernel, by decide +kernel⟩) hS (fun q _ h => hFc q h) hFc (fun q _ h => hFc q h) (fun E ce q9 u t H1 locs ht hvm hw hB hz1 hk1 hS hce hcv hcl => ?_) (fun u t H1 locs ht hvm hw hB hz1 hk1 hS => False.elim hw)
  obtain ⟨rfl, hP1, hK1, hD1⟩ := hB
  rw [ht] at hP1
  have hK1 := va_K.moved hvm.symm hK1
  obtain ⟨hP, hD⟩ := va_join (wr := []) (w1 := [(h0, .inr (0, [v_documents, v_buffer, v_fetched, v_compared, v_maker, v_writer, .ref hp, .int i_madeDocuments, .int i_fetchedSteps])), (hp, .inr (4, [.int 1, .int p_i_going, .int p_i_writesLeft]))]) hP hD [0, 1] [] rfl rfl (by decide) (by decide) hk1 hFc hP1 hD1
  generalize H1 = H at hP hS hce ⊢
  replace hP : va_P (dC, dI) vwCl [(h0, .inr (0, [v_documents, v_buffer, v_fetched, v_compared, v_maker, v_writer, .ref hp, .int i_madeDocuments, .int i_fetchedSteps])), (hp, .inr (4, [.int 1, .int p_i_going, .int p_i_writesLeft]))] H := hP
  replace hD : va_D A [(h0, .inr (0, [v_documents, v_buffer, v_fetched, v_compared, v_maker, v_writer, .ref hp, .int i_madeDocuments, .int i_fetchedSteps])), (hp, .inr (4, [.int 1, .int p_i_going, .int p_i_writesLeft]))] := hD
  have hP9 := hP.sub (ws' := [(h0, .inr (0, [v_documents, v_buffer, v_fetched, v_compared, v_maker, v_writer, .ref hp, .int i_madeDocuments, .int i_fetchedSteps])), (hp, .inr (4, [.int 1, .int p_i_going, .int p_i_writesLeft]))]) [0, 1] rfl
  have hD9 := hD.sub (ws' := [(h0, .inr (0, [v_documents, v_buffer, v_fetched, v_compared, v_maker, v_writer, .ref hp, .int i_madeDocuments, .int i_fetchedSteps])), (hp, .inr (4, [.int 1, .int p_i_going, .int p_i_writesLeft]))]) [0, 1] (by decide) rfl
  have hK9 := hK.sub (tys' := []) [] rfl
  exact vx_out (fun x hx => (htab x hx).elim) hlocks hce hcv hcl (fun t ht hvm => ⟨(), trivial, ⟨rfl, by rw [ht]; exact hP9, va_K.moved hvm hK9, hD9⟩, hS.F ht⟩) hS.2.2 (by decide +kernel) (by decide +kernel)
set_option maxHeartbeats 4000000 in
set_option maxRecDepth 100000 in
theorem x_dropDocument_D (l : Launch) (hl9 : l.stackTraces = false) (dC : Nat → ClassId) (dI : Nat → Nat → Nat) (sz : Nat) (h0 : Nat) (v_documents : Value) (v_buffer : Value) (v_fetched : Value) (v_compared : Value) (v_maker : Value) (v_writer : Value) (i_madeDocuments : Int32) (i_fetchedSteps : Int32) (hp : Nat) (p_i_going : Int32) (p_i_writesLeft : Int32) (a1 : Int32)  : vx_Met l y_K_dropDocument k_K_dropDocument ({ frames := 7, cells := 1, slots := 6, locals := 105 } : Room) (va_Pc [.ref h0, .int a1] (fun U => pc_E (dC, dI) [(h0, .inr (0, [v_documents, v_buffer, v_fetched, v_compared, v_maker, v_writer, .ref hp, .int i_madeDocuments, .int i_fetchedSteps])), (hp, .inr (4, [.int 1, .int p_i_going, .int p_i_writesLeft]))] [] sz U ∧ tw_ok U)) (va_Qi (fun (_ : Int32) (_ : Unit) => False) (fun _ _ => True) (va_A [(h0, .inr (0, [v_documents, v_buffer, v_fetched, v_compared, v_maker, v_writer, .ref hp, .int i_madeDocuments, .int i_fetchedSteps])), (hp, .inr (4, [.int 1, .int p_i_going, .int p_i_writesLeft]))] sz)) (vx_X (fun _ : Unit => True) (fun E _ t => E = "java/lang/IllegalStateException" ∧ at_E (dC, dI) (va_A [(h0, .inr (0, [v_documents, v_buffer, v_fetched, v_compared, v_maker, v_writer, .ref hp, .int i_madeDocuments, .int i_fetchedSteps])), (hp, .inr (4, [.int 1, .int p_i_going, .int p_i_writesLeft]))] sz) [(h0, .inr (0, [v_documents, v_buffer, v_fetched, v_compared, v_maker, v_writer, .ref hp, .int i_madeDocuments, .int i_fetchedSteps])), (hp, .inr (4, [.int 1, .int p_i_going, .int p_i_writesLeft]))] [] t) (va_A [(h0, .inr (0, [v_documents, v_buffer, v_fetched, v_compared, v_maker, v_writer, .ref hp, .int i_madeDocuments, .int i_fetchedSteps])), (hp, .inr (4, [.int 1, .int p_i_going, .int p_i_writesLeft]))] sz)) 1 6 (va_A [(h0, .inr (0, [v_documents, v_buffer, v_fetched, v_compared, v_maker, v_writer, .ref hp, .int i_madeDocuments, .int i_fetchedSteps])), (hp, .inr (4, [.int 1, .int p_i_going, .int p_i_writesLeft]))] sz) := by
  refine vx_ofW (cc := prog_1_method_10_code) (maxL := 2) (ret := (some .boolean)) (by decide) rfl ?_
  intro p e s m args below meth c s₁ B hml htab hv
  obtain ⟨rfl, ⟨hsz, hP, hK, hD0, hN⟩, hTw⟩ := hv
  have hx := B.exec
  have hb := B.bytes
  have hr := B.returns
  have hts := atoms_spec (ws := k_K_dropDocument) B.pre
  have hw0 : ∀ w ∈ w0, w.before _ s = true := fun w h => hts w (List.mem_cons_of_mem _ h)
  have hown : s.vm.findClass R_K = some m.cls := findClass_of_methodNamed B.named
  have hlocks := B.notSynchronized
  subst hsz
  have hD := hD0.self (sz := s.heap.size)
  have hTwA := tw_A hTw hP
  generalize hAe : va_A [(h0, .inr (0, [v_documents, v_buffer, v_fetched, v_compared, v_maker, v_writer, .ref hp, .int i_madeDocuments, .int i_fetchedSteps])), (hp, .inr (4, [.int 1, .int p_i_going, .int p_i_writesLeft]))] s.heap.size = A at hD hTwA ⊢
  have hA : ∀ q : Nat, s.heap.size ≤ q → A q := fun q h => by rw [← hAe]; exact Or.inr h
  have hS : va_S A s.heap s.heap [] := va_S.rf
  have hP : va_P (dC, dI) vwCl [(h0, .inr (0, [v_documents, v_buffer, v_fetched, v_compared, v_maker, v_writer, .ref hp, .int i_madeDocuments, .int i_fetchedSteps])), (hp, .inr (4, [.int 1, .int p_i_going, .int p_i_writesLeft]))] s.heap := hP
  have hl := lv_entry ([.ref h0, .int a1]) (n := 2) (Nat.le_of_ble_eq_true rfl)
  rw [lg_entry_eq]
  generalize (lg_sl ([.ref h0, .int a1]) ++ List.replicate (2 - (lg_sl ([.ref h0, .int a1])).length) Slot.unset).toArray = ls at hl ⊢
  have hl : lv_has ls 2 [(0, .ref h0), (1, .int a1)] := hl
  refine lv_aload_n hx hb d_K_dropDocument_0 rfl (lv_at hl 0 rfl) ?_
  have hPc := hP.sub (ws' := [(h0, .inr (0, [v_documents, v_buffer, v_fetched, v_compared, v_maker, v_writer, .ref hp, .int i_madeDocuments, .int i_fetchedSteps])), (hp, .inr (4, [.int 1, .int p_i_going, .int p_i_writesLeft]))]) [0, 1] rfl
  have hKc := hK.sub (tys' := []) [] rfl
  have hDc := hD.sub (ws' := [(h0, .inr (0, [v_documents, v_buffer, v_fetched, v_compared, v_maker, v_writer, .ref hp, .int i_madeDocuments, .int i_fetchedSteps])), (hp, .inr (4, [.int 1, .int p_i_going, .int p_i_writesLeft]))]) [0, 1] (by decide) rfl
  have hFc := va_free (wc := [(h0, .inr (0, [v_documents, v_buffer, v_fetched, v_compared, v_maker, v_writer, .ref hp, .int i_madeDocuments, .int i_fetchedSteps])), (hp, .inr (4, [.int 1, .int p_i_going, .int p_i_writesLeft]))]) hD hS hA [0, 1] rfl
  refine vx_callv (vx_runV (As := []) (rest := []) ⟨hx, hb, hml, hown, hw0⟩ (x_needPower l hl9 dC dI s.heap.size h0 v_documents v_buffer v_fetched v_compared v_maker v_writer i_madeDocuments i_fetchedSteps hp p_i_going p_i_writesLeft ) (cwV 0 hw0 (gd_V 322 323 324 226 325 rfl rfl rfl rfl rfl) rfl rfl rfl (by decide +kernel) ⟨by decide +kernel, by decide +kernel⟩) (prV_X hPc hKc hDc hN (hTwA.at hS) (va_recv hKc hPc (ci := 0) (q0 := 0) rfl rfl)) rfl rfl hl.1 rfl (lv_room (Nat.le_of_ble_eq_true rfl)) d_K_dropDocument_1 ⟨by decide +kernel, by decide +kernel⟩) hS (fun q _ h => hFc q h) hFc (fun q _ h => hFc q h) (fun E ce q9 u t H1 locs ht hvm hw hB hz1 hk1 hS hce hcv hcl => ?_) (fun u t H1 locs ht hvm hw hB hz1 hk1 hS => False.elim hw)
  obtain ⟨rfl, hP1, hK1, hD1⟩ := hB
  rw [ht] at hP1
  have hK1 := va_K.moved hvm.symm hK1
  obtain ⟨hP, hD⟩ := va_join (wr := []) (w1 := [(h0, .inr (0, [v_documents, v_buffer, v_fetched, v_compared, v_maker, v_writer, .ref hp, .int i_madeDocuments, .int i_fetchedSteps])), (hp, .inr (4, [.int 1, .int p_i_going, .int p_i_writesLeft]))]) hP hD [0, 1] [] rfl rfl (by decide) (by decide) hk1 hFc hP1 hD1
  generalize H1 = H at hP hS hce ⊢
  replace hP : va_P (dC, dI) vwCl [(h0, .inr (0, [v_documents, v_buffer, v_fetched, v_compared, v_maker, v_writer, .ref hp, .int i_madeDocuments, .int i_fetchedSteps])), (hp, .inr (4, [.int 1, .int p_i_going, .int p_i_writesLeft]))] H := hP
  replace hD : va_D A [(h0, .inr (0, [v_documents, v_buffer, v_fetched, v_compared, v_maker, v_writer, .ref hp, .int i_madeDocuments, .int i_fetchedSteps])), (hp, .inr (4, [.int 1, .int p_i_going, .int p_i_writesLeft]))] := hD
  have hP9 := hP.sub (ws' := [(h0, .inr (0, [v_documents, v_buffer, v_fetched, v_compared, v_maker, v_writer, .ref hp, .int i_madeDocuments, .int i_fetchedSteps])), (hp, .inr (4, [.int 1, .int p_i_going, .int p_i_writesLeft]))]) [0, 1] rfl
  have hD9 := hD.sub (ws' := [(h0, .inr (0, [v_documents, v_buffer, v_fetched, v_compared, v_maker, v_writer, .ref hp, .int i_madeDocuments, .int i_fetchedSteps])), (hp, .inr (4, [.int 1, .int p_i_going, .int p_i_writesLeft]))]) [0, 1] (by decide) rfl
  have hK9 := hK.sub (tys' := []) [] rfl
  exact vx_out (fun x hx => (htab x hx).elim) hlocks hce hcv hcl (fun t ht hvm => ⟨(), trivial, ⟨rfl, by rw [ht]; exact hP9, va_K.moved hvm hK9, hD9⟩, hS.F ht⟩) hS.2.2 (by decide +kernel) (by decide +kernel)
set_option maxHeartbeats 4000000 in
set_option maxRecDepth 100000 in
theorem x_about_D (l : Launch) (hl9 : l.stackTraces = false) (dC : Nat → ClassId) (dI : Nat → Nat → Nat) (sz : Nat) (h0 : Nat) (v_documents : Value) (v_buffer : Value) (v_fetched : Value) (v_compared : Value) (v_maker : Value) (v_writer : Value) (i_madeDocuments : Int32) (i_fetchedSteps : Int32) (hp : Nat) (p_i_going : Int32) (p_i_writesLeft : Int32) (a1 : Int32) (a2 : Int32)  : vx_Met l y_K_about k_K_about ({ frames := 7, cells := 1, slots := 6, locals := 105 } : Room) (va_Pc [.ref h0, .int a1, .int a2] (fun U => pc_E (dC, dI) [(h0, .inr (0, [v_documents, v_buffer, v_fetched, v_compared, v_maker, v_writer, .ref hp, .int i_madeDocuments, .int i_fetchedSteps])), (hp, .inr (4, [.int 1, .int p_i_going, .int p_i_writesLeft]))] [] sz U ∧ tw_ok U)) (va_Qi (fun (_ : Int32) (_ : Unit) => False) (fun _ _ => True) (va_A [(h0, .inr (0, [v_documents, v_buffer, v_fetched, v_compared, v_maker, v_writer, .ref hp, .int i_madeDocuments, .int i_fetchedSteps])), (hp, .inr (4, [.int 1, .int p_i_going, .int p_i_writesLeft]))] sz)) (vx_X (fun _ : Unit => True) (fun E _ t => E = "java/lang/IllegalStateException" ∧ at_E (dC, dI) (va_A [(h0, .inr (0, [v_documents, v_buffer, v_fetched, v_compared, v_maker, v_writer, .ref hp, .int i_madeDocuments, .int i_fetchedSteps])), (hp, .inr (4, [.int 1, .int p_i_going, .int p_i_writesLeft]))] sz) [(h0, .inr (0, [v_documents, v_buffer, v_fetched, v_compared, v_maker, v_writer, .ref hp, .int i_madeDocuments, .int i_fetchedSteps])), (hp, .inr (4, [.int 1, .int p_i_going, .int p_i_writesLeft]))] [] t) (va_A [(h0, .inr (0, [v_documents, v_buffer, v_fetched, v_compared, v_maker, v_writer, .ref hp, .int i_madeDocuments, .int i_fetchedSteps])), (hp, .inr (4, [.int 1, .int p_i_going, .int p_i_writesLeft]))] sz)) 1 6 (va_A [(h0, .inr (0, [v_documents, v_buffer, v_fetched, v_compared, v_maker, v_writer, .ref hp, .int i_madeDocuments, .int i_fetchedSteps])), (hp, .inr (4, [.int 1, .int p_i_going, .int p_i_writesLeft]))] sz) := by
  refine vx_ofW (cc := prog_1_method_11_code) (maxL := 4) (ret := (some .int)) (by decide) rfl ?_
  intro p e s m args below meth c s₁ B hml htab hv
  obtain ⟨rfl, ⟨hsz, hP, hK, hD0, hN⟩, hTw⟩ := hv
  have hx := B.exec
  have hb := B.bytes
  have hr := B.returns
  have hts := atoms_spec (ws := k_K_about) B.pre
  have hw0 : ∀ w ∈ w0, w.before _ s = true := fun w h => hts w (List.mem_cons_of_mem _ h)
  have hown : s.vm.findClass R_K = some m.cls := findClass_of_methodNamed B.named
  have hlocks := B.notSynchronized
  subst hsz
  have hD := hD0.self (sz := s.heap.size)
  have hTwA := tw_A hTw hP
  generalize hAe : va_A [(h0, .inr (0, [v_documents, v_buffer, v_fetched, v_compared, v_maker, v_writer, .ref hp, .int i_madeDocuments, .int i_fetchedSteps])), (hp, .inr (4, [.int 1, .int p_i_going, .int p_i_writesLeft]))] s.heap.size = A at hD hTwA ⊢
  have hA : ∀ q : Nat, s.heap.size ≤ q → A q := fun q h => by rw [← hAe]; exact Or.inr h
  have hS : va_S A s.heap s.heap [] := va_S.rf
  have hP : va_P (dC, dI) vwCl [(h0, .inr (0, [v_documents, v_buffer, v_fetched, v_compared, v_maker, v_writer, .ref hp, .int i_madeDocuments, .int i_fetchedSteps])), (hp, .inr (4, [.int 1, .int p_i_going, .int p_i_writesLeft]))] s.heap := hP
  have hl := lv_entry ([.ref h0, .int a1, .int a2]) (n := 4) (Nat.le_of_ble_eq_true rfl)
  rw [lg_entry_eq]
  generalize (lg_sl ([.ref h0, .int a1, .int a2]) ++ List.replicate (4 - (lg_sl ([.ref h0, .int a1, .int a2])).length) Slot.unset).toArray = ls at hl ⊢
  have hl : lv_has ls 4 [(0, .ref h0), (1, .int a1), (2, .int a2)] := hl
  refine lv_aload_n hx hb d_K_about_0 rfl (lv_at hl 0 rfl) ?_
  have hPc := hP.sub (ws' := [(h0, .inr (0, [v_documents, v_buffer, v_fetched, v_compared, v_maker, v_writer, .ref hp, .int i_madeDocuments, .int i_fetchedSteps])), (hp, .inr (4, [.int 1, .int p_i_going, .int p_i_writesLeft]))]) [0, 1] rfl
  have hKc := hK.sub (tys' := []) [] rfl
  have hDc := hD.sub (ws' := [(h0, .inr (0, [v_documents, v_buffer, v_fetched, v_compared, v_maker, v_writer, .ref hp, .int i_madeDocuments, .int i_fetchedSteps])), (hp, .inr (4, [.int 1, .int p_i_going, .int p_i_writesLeft]))]) [0, 1] (by decide) rfl
  have hFc := va_free (wc := [(h0, .inr (0, [v_documents, v_buffer, v_fetched, v_compared, v_maker, v_writer, .ref hp, .int i_madeDocuments, .int i_fetchedSteps])), (hp, .inr (4, [.int 1, .int p_i_going, .int p_i_writesLeft]))]) hD hS hA [0, 1] rfl
  refine vx_callv (vx_runV (As := []) (rest := []) ⟨hx, hb, hml, hown, hw0⟩ (x_needPower l hl9 dC dI s.heap.size h0 v_documents v_buffer v_fetched v_compared v_maker v_writer i_madeDocuments i_fetchedSteps hp p_i_going p_i_writesLeft ) (cwV 0 hw0 (gd_V 322 323 324 226 325 rfl rfl rfl rfl rfl) rfl rfl rfl (by decide +kernel) ⟨by decide +kernel, by decide +kernel⟩) (prV_X hPc hKc hDc hN (hTwA.at hS) (va_recv hKc hPc (ci := 0) (q0 := 0) rfl rfl)) rfl rfl hl.1 rfl (lv_room (Nat.le_of_ble_eq_true rfl)) d_K_about_1 ⟨by decide +kernel, by decide +kernel⟩) hS (fun q _ h => hFc q h) hFc (fun q _ h => hFc q h) (fun E ce q9 u t H1 locs ht hvm hw hB hz1 hk1 hS hce hcv hcl => ?_) (fun u t H1 locs ht hvm hw hB hz1 hk1 hS => False.elim hw)
  obtain ⟨rfl, hP1, hK1, hD1⟩ := hB
  rw [ht] at hP1
  have hK1 := va_K.moved hvm.symm hK1
  obtain ⟨hP, hD⟩ := va_join (wr := []) (w1 := [(h0, .inr (0, [v_documents, v_buffer, v_fetched, v_compared, v_maker, v_writer, .ref hp, .int i_madeDocuments, .int i_fetchedSteps])), (hp, .inr (4, [.int 1, .int p_i_going, .int p_i_writesLeft]))]) hP hD [0, 1] [] rfl rfl (by decide) (by decide) hk1 hFc hP1 hD1
  generalize H1 = H at hP hS hce ⊢
  replace hP : va_P (dC, dI) vwCl [(h0, .inr (0, [v_documents, v_buffer, v_fetched, v_compared, v_maker, v_writer, .ref hp, .int i_madeDocuments, .int i_fetchedSteps])), (hp, .inr (4, [.int 1, .int p_i_going, .int p_i_writesLeft]))] H := hP
  replace hD : va_D A [(h0, .inr (0, [v_documents, v_buffer, v_fetched, v_compared, v_maker, v_writer, .ref hp, .int i_madeDocuments, .int i_fetchedSteps])), (hp, .inr (4, [.int 1, .int p_i_going, .int p_i_writesLeft]))] := hD
  have hP9 := hP.sub (ws' := [(h0, .inr (0, [v_documents, v_buffer, v_fetched, v_compared, v_maker, v_writer, .ref hp, .int i_madeDocuments, .int i_fetchedSteps])), (hp, .inr (4, [.int 1, .int p_i_going, .int p_i_writesLeft]))]) [0, 1] rfl
  have hD9 := hD.sub (ws' := [(h0, .inr (0, [v_documents, v_buffer, v_fetched, v_compared, v_maker, v_writer, .ref hp, .int i_madeDocuments, .int i_fetchedSteps])), (hp, .inr (4, [.int 1, .int p_i_going, .int p_i_writesLeft]))]) [0, 1] (by decide) rfl
  have hK9 := hK.sub (tys' := []) [] rfl
  exact vx_out (fun x hx => (htab x hx).elim) hlocks hce hcv hcl (fun t ht hvm => ⟨(), trivial, ⟨rfl, by rw [ht]; exact hP9, va_K.moved hvm hK9, hD9⟩, hS.F ht⟩) hS.2.2 (by decide +kernel) (by decide +kernel)
set_option maxHeartbeats 4000000 in
set_option maxRecDepth 100000 in
theorem x_revision_D (l : Launch) (hl9 : l.stackTraces = false) (dC : Nat → ClassId) (dI : Nat → Nat → Nat) (sz : Nat) (h0 : Nat) (v_documents : Value) (v_buffer : Value) (v_fetched : Value) (v_compared : Value) (v_maker : Value) (v_writer : Value) (i_madeDocuments : Int32) (i_fetchedSteps : Int32) (hp : Nat) (p_i_going : Int32) (p_i_writesLeft : Int32) (a1 : Int32) (a2 : Int32) (a3 : Int32)  : vx_Met l y_K_revision k_K_revision ({ frames := 7, cells := 1, slots := 6, locals := 105 } : Room) (va_Pc [.ref h0, .int a1, .int a2, .int a3] (fun U => pc_E (dC, dI) [(h0, .inr (0, [v_documents, v_buffer, v_fetched, v_compared, v_maker, v_writer, .ref hp, .int i_madeDocuments, .int i_fetchedSteps])), (hp, .inr (4, [.int 1, .int p_i_going, .int p_i_writesLeft]))] [] sz U ∧ tw_ok U)) (va_Qi (fun (_ : Int32) (_ : Unit) => False) (fun _ _ => True) (va_A [(h0, .inr (0, [v_documents, v_buffer, v_fetched, v_compared, v_maker, v_writer, .ref hp, .int i_madeDocuments, .int i_fetchedSteps])), (hp, .inr (4, [.int 1, .int p_i_going, .int p_i_writesLeft]))] sz)) (vx_X (fun _ : Unit => True) (fun E _ t => E = "java/lang/IllegalStateException" ∧ at_E (dC, dI) (va_A [(h0, .inr (0, [v_documents, v_buffer, v_fetched, v_compared, v_maker, v_writer, .ref hp, .int i_madeDocuments, .int i_fetchedSteps])), (hp, .inr (4, [.int 1, .int p_i_going, .int p_i_writesLeft]))] sz) [(h0, .inr (0, [v_documents, v_buffer, v_fetched, v_compared, v_maker, v_writer, .ref hp, .int i_madeDocuments, .int i_fetchedSteps])), (hp, .inr (4, [.int 1, .int p_i_going, .int p_i_writesLeft]))] [] t) (va_A [(h0, .inr (0, [v_documents, v_buffer, v_fetched, v_compared, v_maker, v_writer, .ref hp, .int i_madeDocuments, .int i_fetchedSteps])), (hp, .inr (4, [.int 1, .int p_i_going, .int p_i_writesLeft]))] sz)) 1 6 (va_A [(h0, .inr (0, [v_documents, v_buffer, v_fetched, v_compared, v_maker, v_writer, .ref hp, .int i_madeDocuments, .int i_fetchedSteps])), (hp, .inr (4, [.int 1, .int p_i_going, .int p_i_writesLeft]))] sz) := by
  refine vx_ofW (cc := prog_1_method_12_code) (maxL := 7) (ret := (some .int)) (by decide) rfl ?_
  intro p e s m args below meth c s₁ B hml htab hv
  obtain ⟨rfl, ⟨hsz, hP, hK, hD0, hN⟩, hTw⟩ := hv
  have hx := B.exec
  have hb := B.bytes
  have hr := B.returns
  have hts := atoms_spec (ws := k_K_revision) B.pre
  have hw0 : ∀ w ∈ w0, w.before _ s = true := fun w h => hts w (List.mem_cons_of_mem _ h)
  have hown : s.vm.findClass R_K = some m.cls := findClass_of_methodNamed B.named
  have hlocks := B.notSynchronized
  subst hsz
  have hD := hD0.self (sz := s.heap.size)
  have hTwA := tw_A hTw hP
  generalize hAe : va_A [(h0, .inr (0, [v_documents, v_buffer, v_fetched, v_compared, v_maker, v_writer, .ref hp, .int i_madeDocuments, .int i_fetchedSteps])), (hp, .inr (4, [.int 1, .int p_i_going, .int p_i_writesLeft]))] s.heap.size = A at hD hTwA ⊢
  have hA : ∀ q : Nat, s.heap.size ≤ q → A q := fun q h => by rw [← hAe]; exact Or.inr h
  have hS : va_S A s.heap s.heap [] := va_S.rf
  have hP : va_P (dC, dI) vwCl [(h0, .inr (0, [v_documents, v_buffer, v_fetched, v_compared, v_maker, v_writer, .ref hp, .int i_madeDocuments, .int i_fetchedSteps])), (hp, .inr (4, [.int 1, .int p_i_going, .int p_i_writesLeft]))] s.heap := hP
  have hl := lv_entry ([.ref h0, .int a1, .int a2, .int a3]) (n := 7) (Nat.le_of_ble_eq_true rfl)
  rw [lg_entry_eq]
  generalize (lg_sl ([.ref h0, .int a1, .int a2, .int a3]) ++ List.replicate (7 - (lg_sl ([.ref h0, .int a1, .int a2, .int a3])).length) Slot.unset).toArray = ls at hl ⊢
  have hl : lv_has ls 7 [(0, .ref h0), (1, .int a1), (2, .int a2), (3, .int a3)] := hl
  refine lv_aload_n hx hb d_K_revision_0 rfl (lv_at hl 0 rfl) ?_
  have hPc := hP.sub (ws' := [(h0, .inr (0, [v_documents, v_buffer, v_fetched, v_compared, v_maker, v_writer, .ref hp, .int i_madeDocuments, .int i_fetchedSteps])), (hp, .inr (4, [.int 1, .int p_i_going, .int p_i_writesLeft]))]) [0, 1] rfl
  have hKc := hK.sub (tys' := []) [] rfl
  have hDc := hD.sub (ws' := [(h0, .inr (0, [v_documents, v_buffer, v_fetched, v_compared, v_maker, v_writer, .ref hp, .int i_madeDocuments, .int i_fetchedSteps])), (hp, .inr (4, [.int 1, .int p_i_going, .int p_i_writesLeft]))]) [0, 1] (by decide) rfl
  have hFc := va_free (wc := [(h0, .inr (0, [v_documents, v_buffer, v_fetched, v_compared, v_maker, v_writer, .ref hp, .int i_madeDocuments, .int i_fetchedSteps])), (hp, .inr (4, [.int 1, .int p_i_going, .int p_i_writesLeft]))]) hD hS hA [0, 1] rfl
  refine vx_callv (vx_runV (As := []) (rest := []) ⟨hx, hb, hml, hown, hw0⟩ (x_needPower l hl9 dC dI s.heap.size h0 v_documents v_buffer v_fetched v_compared v_maker v_writer i_madeDocuments i_fetchedSteps hp p_i_going p_i_writesLeft ) (cwV 0 hw0 (gd_V 322 323 324 226 325 rfl rfl rfl rfl rfl) rfl rfl rfl (by decide +kernel) ⟨by decide +kernel, by decide +kernel⟩) (prV_X hPc hKc hDc hN (hTwA.at hS) (va_recv hKc hPc (ci := 0) (q0 := 0) rfl rfl)) rfl rfl hl.1 rfl (lv_room (Nat.le_of_ble_eq_true rfl)) d_K_revision_1 ⟨by decide +kernel, by decide +kernel⟩) hS (fun q _ h => hFc q h) hFc (fun q _ h => hFc q h) (fun E ce q9 u t H1 locs ht hvm hw hB hz1 hk1 hS hce hcv hcl => ?_) (fun u t H1 locs ht hvm hw hB hz1 hk1 hS => False.elim hw)
  obtain ⟨rfl, hP1, hK1, hD1⟩ := hB
  rw [ht] at hP1
  have hK1 := va_K.moved hvm.symm hK1
  obtain ⟨hP, hD⟩ := va_join (wr := []) (w1 := [(h0, .inr (0, [v_documents, v_buffer, v_fetched, v_compared, v_maker, v_writer, .ref hp, .int i_madeDocuments, .int i_fetchedSteps])), (hp, .inr (4, [.int 1, .int p_i_going, .int p_i_writesLeft]))]) hP hD [0, 1] [] rfl rfl (by decide) (by decide) hk1 hFc hP1 hD1
  generalize H1 = H at hP hS hce ⊢
  replace hP : va_P (dC, dI) vwCl [(h0, .inr (0, [v_documents, v_buffer, v_fetched, v_compared, v_maker, v_writer, .ref hp, .int i_madeDocuments, .int i_fetchedSteps])), (hp, .inr (4, [.int 1, .int p_i_going, .int p_i_writesLeft]))] H := hP
  replace hD : va_D A [(h0, .inr (0, [v_documents, v_buffer, v_fetched, v_compared, v_maker, v_writer, .ref hp, .int i_madeDocuments, .int i_fetchedSteps])), (hp, .inr (4, [.int 1, .int p_i_going, .int p_i_writesLeft]))] := hD
  have hP9 := hP.sub (ws' := [(h0, .inr (0, [v_documents, v_buffer, v_fetched, v_compared, v_maker, v_writer, .ref hp, .int i_madeDocuments, .int i_fetchedSteps])), (hp, .inr (4, [.int 1, .int p_i_going, .int p_i_writesLeft]))]) [0, 1] rfl
  have hD9 := hD.sub (ws' := [(h0, .inr (0, [v_documents, v_buffer, v_fetched, v_compared, v_maker, v_writer, .ref hp, .int i_madeDocuments, .int i_fetchedSteps])), (hp, .inr (4, [.int 1, .int p_i_going, .int p_i_writesLeft]))]) [0, 1] (by decide) rfl
  have hK9 := hK.sub (tys' := []) [] rfl
  exact vx_out (fun x hx => (htab x hx).elim) hlocks hce hcv hcl (fun t ht hvm => ⟨(), trivial, ⟨rfl, by rw [ht]; exact hP9, va_K.moved hvm hK9, hD9⟩, hS.F ht⟩) hS.2.2 (by decide +kernel) (by decide +kernel)
set_option maxHeartbeats 4000000 in
set_option maxRecDepth 100000 in
theorem x_pieceByte_D (l : Launch) (hl9 : l.stackTraces = false) (dC : Nat → ClassId) (dI : Nat → Nat → Nat) (sz : Nat) (h0 : Nat) (v_documents : Value) (v_buffer : Value) (v_fetched : Value) (v_compared : Value) (v_maker : Value) (v_writer : Value) (i_madeDocuments : Int32) (i_fetchedSteps : Int32) (hp : Nat) (p_i_going : Int32) (p_i_writesLeft : Int32) (a1 : Int32) (a2 : Int32) (a3 : Int32)  : vx_Met l y_K_pieceByte k_K_pieceByte ({ frames := 7, cells := 1, slots := 6, locals := 105 } : Room) (va_Pc [.ref h0, .int a1, .int a2, .int a3] (fun U => pc_E (dC, dI) [(h0, .inr (0, [v_documents, v_buffer, v_fetched, v_compared, v_maker, v_writer, .ref hp, .int i_madeDocuments, .int i_fetchedSteps])), (hp, .inr (4, [.int 1, .int p_i_going, .int p_i_writesLeft]))] [] sz U ∧ tw_ok U)) (va_Qi (fun (_ : Int32) (_ : Unit) => False) (fun _ _ => True) (va_A [(h0, .inr (0, [v_documents, v_buffer, v_fetched, v_compared, v_maker, v_writer, .ref hp, .int i_madeDocuments, .int i_fetchedSteps])), (hp, .inr (4, [.int 1, .int p_i_going, .int p_i_writesLeft]))] sz)) (vx_X (fun _ : Unit => True) (fun E _ t => E = "java/lang/IllegalStateException" ∧ at_E (dC, dI) (va_A [(h0, .inr (0, [v_documents, v_buffer, v_fetched, v_compared, v_maker, v_writer, .ref hp, .int i_madeDocuments, .int i_fetchedSteps])), (hp, .inr (4, [.int 1, .int p_i_going, .int p_i_writesLeft]))] sz) [(h0, .inr (0, [v_documents, v_buffer, v_fetched, v_compared, v_maker, v_writer, .ref hp, .int i_madeDocuments, .int i_fetchedSteps])), (hp, .inr (4, [.int 1, .int p_i_going, .int p_i_writesLeft]))] [] t) (va_A [(h0, .inr (0, [v_documents, v_buffer, v_fetched, v_compared, v_maker, v_writer, .ref hp, .int i_madeDocuments, .int i_fetchedSteps])), (hp, .inr (4, [.int 1, .int p_i_going, .int p_i_writesLeft]))] sz)) 1 6 (va_A [(h0, .inr (0, [v_documents, v_buffer, v_fetched, v_compared, v_maker, v_writer, .ref hp, .int i_madeDocuments, .int i_fetchedSteps])), (hp, .inr (4, [.int 1, .int p_i_going, .int p_i_writesLeft]))] sz) := by
  refine vx_ofW (cc := prog_1_method_13_code) (maxL := 5) (ret := (some .int)) (by decide) rfl ?_
  intro p e s m args below meth c s₁ B hml htab hv
  obtain ⟨rfl, ⟨hsz, hP, hK, hD0, hN⟩, hTw⟩ := hv
  have hx := B.exec
  have hb := B.bytes
  have hr := B.returns
  have hts := atoms_spec (ws := k_K_pieceByte) B.pre
  have hw0 : ∀ w ∈ w0, w.before _ s = true := fun w h => hts w (List.mem_cons_of_mem _ h)
  have hown : s.vm.findClass R_K = some m.cls := findClass_of_methodNamed B.named
  have hlocks := B.notSynchronized
  subst hsz
  have hD := hD0.self (sz := s.heap.size)
  have hTwA := tw_A hTw hP
  generalize hAe : va_A [(h0, .inr (0, [v_documents, v_buffer, v_fetched, v_compared, v_maker, v_writer, .ref hp, .int i_madeDocuments, .int i_fetchedSteps])), (hp, .inr (4, [.int 1, .int p_i_going, .int p_i_writesLeft]))] s.heap.size = A at hD hTwA ⊢
  have hA : ∀ q : Nat, s.heap.size ≤ q → A q := fun q h => by rw [← hAe]; exact Or.inr h
  have hS : va_S A s.heap s.heap [] := va_S.rf
  have hP : va_P (dC, dI) vwCl [(h0, .inr (0, [v_documents, v_buffer, v_fetched, v_compared, v_maker, v_writer, .ref hp, .int i_madeDocuments, .int i_fetchedSteps])), (hp, .inr (4, [.int 1, .int p_i_going, .int p_i_writesLeft]))] s.heap := hP
  have hl := lv_entry ([.ref h0, .int a1, .int a2, .int a3]) (n := 5) (Nat.le_of_ble_eq_true rfl)
  rw [lg_entry_eq]
  generalize (lg_sl ([.ref h0, .int a1, .int a2, .int a3]) ++ List.replicate (5 - (lg_sl ([.ref h0, .int a1, .int a2, .int a3])).length) Slot.unset).toArray = ls at hl ⊢
  have hl : lv_has ls 5 [(0, .ref h0), (1, .int a1), (2, .int a2), (3, .int a3)] := hl
  refine lv_aload_n hx hb d_K_pieceByte_0 rfl (lv_at hl 0 rfl) ?_
  have hPc := hP.sub (ws' := [(h0, .inr (0, [v_documents, v_buffer, v_fetched, v_compared, v_maker, v_writer, .ref hp, .int i_madeDocuments, .int i_fetchedSteps])), (hp, .inr (4, [.int 1, .int p_i_going, .int p_i_writesLeft]))]) [0, 1] rfl
  have hKc := hK.sub (tys' := []) [] rfl
  have hDc := hD.sub (ws' := [(h0, .inr (0, [v_documents, v_buffer, v_fetched, v_compared, v_maker, v_writer, .ref hp, .int i_madeDocuments, .int i_fetchedSteps])), (hp, .inr (4, [.int 1, .int p_i_going, .int p_i_writesLeft]))]) [0, 1] (by decide) rfl
  have hFc := va_free (wc := [(h0, .inr (0, [v_documents, v_buffer, v_fetched, v_compared, v_maker, v_writer, .ref hp, .int i_madeDocuments, .int i_fetchedSteps])), (hp, .inr (4, [.int 1, .int p_i_going, .int p_i_writesLeft]))]) hD hS hA [0, 1] rfl
  refine vx_callv (vx_runV (As := []) (rest := []) ⟨hx, hb, hml, hown, hw0⟩ (x_needPower l hl9 dC dI s.heap.size h0 v_documents v_buffer v_fetched v_compared v_maker v_writer i_madeDocuments i_fetchedSteps hp p_i_going p_i_writesLeft ) (cwV 0 hw0 (gd_V 322 323 324 226 325 rfl rfl rfl rfl rfl) rfl rfl rfl (by decide +kernel) ⟨by decide +kernel, by decide +kernel⟩) (prV_X hPc hKc hDc hN (hTwA.at hS) (va_recv hKc hPc (ci := 0) (q0 := 0) rfl rfl)) rfl rfl hl.1 rfl (lv_room (Nat.le_of_ble_eq_true rfl)) d_K_pieceByte_1 ⟨by decide +kernel, by decide +kernel⟩) hS (fun q _ h => hFc q h) hFc (fun q _ h => hFc q h) (fun E ce q9 u t H1 locs ht hvm hw hB hz1 hk1 hS hce hcv hcl => ?_) (fun u t H1 locs ht hvm hw hB hz1 hk1 hS => False.elim hw)
  obtain ⟨rfl, hP1, hK1, hD1⟩ := hB
  rw [ht] at hP1
  have hK1 := va_K.moved hvm.symm hK1
  obtain ⟨hP, hD⟩ := va_join (wr := []) (w1 := [(h0, .inr (0, [v_documents, v_buffer, v_fetched, v_compared, v_maker, v_writer, .ref hp, .int i_madeDocuments, .int i_fetchedSteps])), (hp, .inr (4, [.int 1, .int p_i_going, .int p_i_writesLeft]))]) hP hD [0, 1] [] rfl rfl (by decide) (by decide) hk1 hFc hP1 hD1
  generalize H1 = H at hP hS hce ⊢
  replace hP : va_P (dC, dI) vwCl [(h0, .inr (0, [v_documents, v_buffer, v_fetched, v_compared, v_maker, v_writer, .ref hp, .int i_madeDocuments, .int i_fetchedSteps])), (hp, .inr (4, [.int 1, .int p_i_going, .int p_i_writesLeft]))] H := hP
  replace hD : va_D A [(h0, .inr (0, [v_documents, v_buffer, v_fetched, v_compared, v_maker, v_writer, .ref hp, .int i_madeDocuments, .int i_fetchedSteps])), (hp, .inr (4, [.int 1, .int p_i_going, .int p_i_writesLeft]))] := hD
  have hP9 := hP.sub (ws' := [(h0, .inr (0, [v_documents, v_buffer, v_fetched, v_compared, v_maker, v_writer, .ref hp, .int i_madeDocuments, .int i_fetchedSteps])), (hp, .inr (4, [.int 1, .int p_i_going, .int p_i_writesLeft]))]) [0, 1] rfl
  have hD9 := hD.sub (ws' := [(h0, .inr (0, [v_documents, v_buffer, v_fetched, v_compared, v_maker, v_writer, .ref hp, .int i_madeDocuments, .int i_fetchedSteps])), (hp, .inr (4, [.int 1, .int p_i_going, .int p_i_writesLeft]))]) [0, 1] (by decide) rfl
  have hK9 := hK.sub (tys' := []) [] rfl
  exact vx_out (fun x hx => (htab x hx).elim) hlocks hce hcv hcl (fun t ht hvm => ⟨(), trivial, ⟨rfl, by rw [ht]; exact hP9, va_K.moved hvm hK9, hD9⟩, hS.F ht⟩) hS.2.2 (by decide +kernel) (by decide +kernel)
set_option maxHeartbeats 4000000 in
set_option maxRecDepth 100000 in
theorem x_damage_D (l : Launch) (hl9 : l.stackTraces = false) (dC : Nat → ClassId) (dI : Nat → Nat → Nat) (sz : Nat) (h0 : Nat) (v_documents : Value) (v_buffer : Value) (v_fetched : Value) (v_compared : Value) (v_maker : Value) (v_writer : Value) (i_madeDocuments : Int32) (i_fetchedSteps : Int32) (hp : Nat) (p_i_going : Int32) (p_i_writesLeft : Int32) (a1 : Int32) (a2 : Int32) (a3 : Int32) (a4 : Int32)  : vx_Met l y_K_damage k_K_damage ({ frames := 7, cells := 1, slots := 6, locals := 105 } : Room) (va_Pc [.ref h0, .int a1, .int a2, .int a3, .int a4] (fun U => pc_E (dC, dI) [(h0, .inr (0, [v_documents, v_buffer, v_fetched, v_compared, v_maker, v_writer, .ref hp, .int i_madeDocuments, .int i_fetchedSteps])), (hp, .inr (4, [.int 1, .int p_i_going, .int p_i_writesLeft]))] [] sz U ∧ tw_ok U)) (va_Qi (fun (_ : Int32) (_ : Unit) => False) (fun _ _ => True) (va_A [(h0, .inr (0, [v_documents, v_buffer, v_fetched, v_compared, v_maker, v_writer, .ref hp, .int i_madeDocuments, .int i_fetchedSteps])), (hp, .inr (4, [.int 1, .int p_i_going, .int p_i_writesLeft]))] sz)) (vx_X (fun _ : Unit => True) (fun E _ t => E = "java/lang/IllegalStateException" ∧ at_E (dC, dI) (va_A [(h0, .inr (0, [v_documents, v_buffer, v_fetched, v_compared, v_maker, v_writer, .ref hp, .int i_madeDocuments, .int i_fetchedSteps])), (hp, .inr (4, [.int 1, .int p_i_going, .int p_i_writesLeft]))] sz) [(h0, .inr (0, [v_documents, v_buffer, v_fetched, v_compared, v_maker, v_writer, .ref hp, .int i_madeDocuments, .int i_fetchedSteps])), (hp, .inr (4, [.int 1, .int p_i_going, .int p_i_writesLeft]))] [] t) (va_A [(h0, .inr (0, [v_documents, v_buffer, v_fetched, v_compared, v_maker, v_writer, .ref hp, .int i_madeDocuments, .int i_fetchedSteps])), (hp, .inr (4, [.int 1, .int p_i_going, .int p_i_writesLeft]))] sz)) 1 6 (va_A [(h0, .inr (0, [v_documents, v_buffer, v_fetched, v_compared, v_maker, v_writer, .ref hp, .int i_madeDocuments, .int i_fetchedSteps])), (hp, .inr (4, [.int 1, .int p_i_going, .int p_i_writesLeft]))] sz) := by
  refine vx_ofW (cc := prog_1_method_14_code) (maxL := 6) (ret := (some .boolean)) (by decide) rfl ?_
  intro p e s m args below meth c s₁ B hml htab hv
  obtain ⟨rfl, ⟨hsz, hP, hK, hD0, hN⟩, hTw⟩ := hv
  have hx := B.exec
  have hb := B.bytes
  have hr := B.returns
  have hts := atoms_spec (ws := k_K_damage) B.pre
  have hw0 : ∀ w ∈ w0, w.before _ s = true := fun w h => hts w (List.mem_cons_of_mem _ h)
  have hown : s.vm.findClass R_K = some m.cls := findClass_of_methodNamed B.named
  have hlocks := B.notSynchronized
  subst hsz
  have hD := hD0.self (sz := s.heap.size)
  have hTwA := tw_A hTw hP
  generalize hAe : va_A [(h0, .inr (0, [v_documents, v_buffer, v_fetched, v_compared, v_maker, v_writer, .ref hp, .int i_madeDocuments, .int i_fetchedSteps])), (hp, .inr (4, [.int 1, .int p_i_going, .int p_i_writesLeft]))] s.heap.size = A at hD hTwA ⊢
  have hA : ∀ q : Nat, s.heap.size ≤ q → A q := fun q h => by rw [← hAe]; exact Or.inr h
  have hS : va_S A s.heap s.heap [] := va_S.rf
  have hP : va_P (dC, dI) vwCl [(h0, .inr (0, [v_documents, v_buffer, v_fetched, v_compared, v_maker, v_writer, .ref hp, .int i_madeDocuments, .int i_fetchedSteps])), (hp, .inr (4, [.int 1, .int p_i_going, .int p_i_writesLeft]))] s.heap := hP
  have hl := lv_entry ([.ref h0, .int a1, .int a2, .int a3, .int a4]) (n := 6) (Nat.le_of_ble_eq_true rfl)
  rw [lg_entry_eq]
  generalize (lg_sl ([.ref h0, .int a1, .int a2, .int a3, .int a4]) ++ List.replicate (6 - (lg_sl ([.ref h0, .int a1, .int a2, .int a3, .int a4])).length) Slot.unset).toArray = ls at hl ⊢
  have hl : lv_has ls 6 [(0, .ref h0), (1, .int a1), (2, .int a2), (3, .int a3), (4, .int a4)] := hl
  refine lv_aload_n hx hb d_K_damage_0 rfl (lv_at hl 0 rfl) ?_
  have hPc := hP.sub (ws' := [(h0, .inr (0, [v_documents, v_buffer, v_fetched, v_compared, v_maker, v_writer, .ref hp, .int i_madeDocuments, .int i_fetchedSteps])), (hp, .inr (4, [.int 1, .int p_i_going, .int p_i_writesLeft]))]) [0, 1] rfl
  have hKc := hK.sub (tys' := []) [] rfl
  have hDc := hD.sub (ws' := [(h0, .inr (0, [v_documents, v_buffer, v_fetched, v_compared, v_maker, v_writer, .ref hp, .int i_madeDocuments, .int i_fetchedSteps])), (hp, .inr (4, [.int 1, .int p_i_going, .int p_i_writesLeft]))]) [0, 1] (by decide) rfl
  have hFc := va_free (wc := [(h0, .inr (0, [v_documents, v_buffer, v_fetched, v_compared, v_maker, v_writer, .ref hp, .int i_madeDocuments, .int i_fetchedSteps])), (hp, .inr (4, [.int 1, .int p_i_going, .int p_i_writesLeft]))]) hD hS hA [0, 1] rfl
  refine vx_callv (vx_runV (As := []) (rest := []) ⟨hx, hb, hml, hown, hw0⟩ (x_needPower l hl9 dC dI s.heap.size h0 v_documents v_buffer v_fetched v_compared v_maker v_writer i_madeDocuments i_fetchedSteps hp p_i_going p_i_writesLeft ) (cwV 0 hw0 (gd_V 322 323 324 226 325 rfl rfl rfl rfl rfl) rfl rfl rfl (by decide +kernel) ⟨by decide +kernel, by decide +kernel⟩) (prV_X hPc hKc hDc hN (hTwA.at hS) (va_recv hKc hPc (ci := 0) (q0 := 0) rfl rfl)) rfl rfl hl.1 rfl (lv_room (Nat.le_of_ble_eq_true rfl)) d_K_damage_1 ⟨by decide +kernel, by decide +kernel⟩) hS (fun q _ h => hFc q h) hFc (fun q _ h => hFc q h) (fun E ce q9 u t H1 locs ht hvm hw hB hz1 hk1 hS hce hcv hcl => ?_) (fun u t H1 locs ht hvm hw hB hz1 hk1 hS => False.elim hw)
  obtain ⟨rfl, hP1, hK1, hD1⟩ := hB
  rw [ht] at hP1
  have hK1 := va_K.moved hvm.symm hK1
  obtain ⟨hP, hD⟩ := va_join (wr := []) (w1 := [(h0, .inr (0, [v_documents, v_buffer, v_fetched, v_compared, v_maker, v_writer, .ref hp, .int i_madeDocuments, .int i_fetchedSteps])), (hp, .inr (4, [.int 1, .int p_i_going, .int p_i_writesLeft]))]) hP hD [0, 1] [] rfl rfl (by decide) (by decide) hk1 hFc hP1 hD1
  generalize H1 = H at hP hS hce ⊢
  replace hP : va_P (dC, dI) vwCl [(h0, .inr (0, [v_documents, v_buffer, v_fetched, v_compared, v_maker, v_writer, .ref hp, .int i_madeDocuments, .int i_fetchedSteps])), (hp, .inr (4, [.int 1, .int p_i_going, .int p_i_writesLeft]))] H := hP
  replace hD : va_D A [(h0, .inr (0, [v_documents, v_buffer, v_fetched, v_compared, v_maker, v_writer, .ref hp, .int i_madeDocuments, .int i_fetchedSteps])), (hp, .inr (4, [.int 1, .int p_i_going, .int p_i_writesLeft]))] := hD
  have hP9 := hP.sub (ws' := [(h0, .inr (0, [v_documents, v_buffer, v_fetched, v_compared, v_maker, v_writer, .ref hp, .int i_madeDocuments, .int i_fetchedSteps])), (hp, .inr (4, [.int 1, .int p_i_going, .int p_i_writesLeft]))]) [0, 1] rfl
  have hD9 := hD.sub (ws' := [(h0, .inr (0, [v_documents, v_buffer, v_fetched, v_compared, v_maker, v_writer, .ref hp, .int i_madeDocuments, .int i_fetchedSteps])), (hp, .inr (4, [.int 1, .int p_i_going, .int p_i_writesLeft]))]) [0, 1] (by decide) rfl
  have hK9 := hK.sub (tys' := []) [] rfl
  exact vx_out (fun x hx => (htab x hx).elim) hlocks hce hcv hcl (fun t ht hvm => ⟨(), trivial, ⟨rfl, by rw [ht]; exact hP9, va_K.moved hvm hK9, hD9⟩, hS.F ht⟩) hS.2.2 (by decide +kernel) (by decide +kernel)
set_option maxHeartbeats 4000000 in
set_option maxRecDepth 100000 in
theorem x_verify_D (l : Launch) (hl9 : l.stackTraces = false) (dC : Nat → ClassId) (dI : Nat → Nat → Nat) (sz : Nat) (h0 : Nat) (v_documents : Value) (v_buffer : Value) (v_fetched : Value) (v_compared : Value) (v_maker : Value) (v_writer : Value) (i_madeDocuments : Int32) (i_fetchedSteps : Int32) (hp : Nat) (p_i_going : Int32) (p_i_writesLeft : Int32) (a1 : Int32)  : vx_Met l y_K_verify k_K_verify ({ frames := 7, cells := 1, slots := 6, locals := 105 } : Room) (va_Pc [.ref h0, .int a1] (fun U => pc_E (dC, dI) [(h0, .inr (0, [v_documents, v_buffer, v_fetched, v_compared, v_maker, v_writer, .ref hp, .int i_madeDocuments, .int i_fetchedSteps])), (hp, .inr (4, [.int 1, .int p_i_going, .int p_i_writesLeft]))] [] sz U ∧ tw_ok U)) (va_Qi (fun (_ : Int32) (_ : Unit) => False) (fun _ _ => True) (va_A [(h0, .inr (0, [v_documents, v_buffer, v_fetched, v_compared, v_maker, v_writer, .ref hp, .int i_madeDocuments, .int i_fetchedSteps])), (hp, .inr (4, [.int 1, .int p_i_going, .int p_i_writesLeft]))] sz)) (vx_X (fun _ : Unit => True) (fun E _ t => E = "java/lang/IllegalStateException" ∧ at_E (dC, dI) (va_A [(h0, .inr (0, [v_documents, v_buffer, v_fetched, v_compared, v_maker, v_writer, .ref hp, .int i_madeDocuments, .int i_fetchedSteps])), (hp, .inr (4, [.int 1, .int p_i_going, .int p_i_writesLeft]))] sz) [(h0, .inr (0, [v_documents, v_buffer, v_fetched, v_compared, v_maker, v_writer, .ref hp, .int i_madeDocuments, .int i_fetchedSteps])), (hp, .inr (4, [.int 1, .int p_i_going, .int p_i_writesLeft]))] [] t) (va_A [(h0, .inr (0, [v_documents, v_buffer, v_fetched, v_compared, v_maker, v_writer, .ref hp, .int i_madeDocuments, .int i_fetchedSteps])), (hp, .inr (4, [.int 1, .int p_i_going, .int p_i_writesLeft]))] sz)) 1 6 (va_A [(h0, .inr (0, [v_documents, v_buffer, v_fetched, v_compared, v_maker, v_writer, .ref hp, .int i_madeDocuments, .int i_fetchedSteps])), (hp, .inr (4, [.int 1, .int p_i_going, .int p_i_writesLeft]))] sz) := by
  refine vx_ofW (cc := prog_1_method_15_code) (maxL := 4) (ret := (some .int)) (by decide) rfl ?_
  intro p e s m args below meth c s₁ B hml htab hv
  obtain ⟨rfl, ⟨hsz, hP, hK, hD0, hN⟩, hTw⟩ := hv
  have hx := B.exec
  have hb := B.bytes
  have hr := B.returns
  have hts := atoms_spec (ws := k_K_verify) B.pre
  have hw0 : ∀ w ∈ w0, w.before _ s = true := fun w h => hts w (List.mem_cons_of_mem _ h)
  have hown : s.vm.findClass R_K = some m.cls := findClass_of_methodNamed B.named
  have hlocks := B.notSynchronized
  subst hsz
  have hD := hD0.self (sz := s.heap.size)
  have hTwA := tw_A hTw hP
  generalize hAe : va_A [(h0, .inr (0, [v_documents, v_buffer, v_fetched, v_compared, v_maker, v_writer, .ref hp, .int i_madeDocuments, .int i_fetchedSteps])), (hp, .inr (4, [.int 1, .int p_i_going, .int p_i_writesLeft]))] s.heap.size = A at hD hTwA ⊢
  have hA : ∀ q : Nat, s.heap.size ≤ q → A q := fun q h => by rw [← hAe]; exact Or.inr h
  have hS : va_S A s.heap s.heap [] := va_S.rf
  have hP : va_P (dC, dI) vwCl [(h0, .inr (0, [v_documents, v_buffer, v_fetched, v_compared, v_maker, v_writer, .ref hp, .int i_madeDocuments, .int i_fetchedSteps])), (hp, .inr (4, [.int 1, .int p_i_going, .int p_i_writesLeft]))] s.heap := hP
  have hl := lv_entry ([.ref h0, .int a1]) (n := 4) (Nat.le_of_ble_eq_true rfl)
  rw [lg_entry_eq]
  generalize (lg_sl ([.ref h0, .int a1]) ++ List.replicate (4 - (lg_sl ([.ref h0, .int a1])).length) Slot.unset).toArray = ls at hl ⊢
  have hl : lv_has ls 4 [(0, .ref h0), (1, .int a1)] := hl
  refine lv_aload_n hx hb d_K_verify_0 rfl (lv_at hl 0 rfl) ?_
  have hPc := hP.sub (ws' := [(h0, .inr (0, [v_documents, v_buffer, v_fetched, v_compared, v_maker, v_writer, .ref hp, .int i_madeDocuments, .int i_fetchedSteps])), (hp, .inr (4, [.int 1, .int p_i_going, .int p_i_writesLeft]))]) [0, 1] rfl
  have hKc := hK.sub (tys' := []) [] rfl
  have hDc := hD.sub (ws' := [(h0, .inr (0, [v_documents, v_buffer, v_fetched, v_compared, v_maker, v_writer, .ref hp, .int i_madeDocuments, .int i_fetchedSteps])), (hp, .inr (4, [.int 1, .int p_i_going, .int p_i_writesLeft]))]) [0, 1] (by decide) rfl
  have hFc := va_free (wc := [(h0, .inr (0, [v_documents, v_buffer, v_fetched, v_compared, v_maker, v_writer, .ref hp, .int i_madeDocuments, .int i_fetchedSteps])), (hp, .inr (4, [.int 1, .int p_i_going, .int p_i_writesLeft]))]) hD hS hA [0, 1] rfl
  refine vx_callv (vx_runV (As := []) (rest := []) ⟨hx, hb, hml, hown, hw0⟩ (x_needPower l hl9 dC dI s.heap.size h0 v_documents v_buffer v_fetched v_compared v_maker v_writer i_madeDocuments i_fetchedSteps hp p_i_going p_i_writesLeft ) (cwV 0 hw0 (gd_V 322 323 324 226 325 rfl rfl rfl rfl rfl) rfl rfl rfl (by decide +kernel) ⟨by decide +kernel, by decide +kernel⟩) (prV_X hPc hKc hDc hN (hTwA.at hS) (va_recv hKc hPc (ci := 0) (q0 := 0) rfl rfl)) rfl rfl hl.1 rfl (lv_room (Nat.le_of_ble_eq_true rfl)) d_K_verify_1 ⟨by decide +kernel, by decide +kernel⟩) hS (fun q _ h => hFc q h) hFc (fun q _ h => hFc q h) (fun E ce q9 u t H1 locs ht hvm hw hB hz1 hk1 hS hce hcv hcl => ?_) (fun u t H1 locs ht hvm hw hB hz1 hk1 hS => False.elim hw)
  obtain ⟨rfl, hP1, hK1, hD1⟩ := hB
  rw [ht] at hP1
  have hK1 := va_K.moved hvm.symm hK1
  obtain ⟨hP, hD⟩ := va_join (wr := []) (w1 := [(h0, .inr (0, [v_documents, v_buffer, v_fetched, v_compared, v_maker, v_writer, .ref hp, .int i_madeDocuments, .int i_fetchedSteps])), (hp, .inr (4, [.int 1, .int p_i_going, .int p_i_writesLeft]))]) hP hD [0, 1] [] rfl rfl (by decide) (by decide) hk1 hFc hP1 hD1
  generalize H1 = H at hP hS hce ⊢
  replace hP : va_P (dC, dI) vwCl [(h0, .inr (0, [v_documents, v_buffer, v_fetched, v_compared, v_maker, v_writer, .ref hp, .int i_madeDocuments, .int i_fetchedSteps])), (hp, .inr (4, [.int 1, .int p_i_going, .int p_i_writesLeft]))] H := hP
  replace hD : va_D A [(h0, .inr (0, [v_documents, v_buffer, v_fetched, v_compared, v_maker, v_writer, .ref hp, .int i_madeDocuments, .int i_fetchedSteps])), (hp, .inr (4, [.int 1, .int p_i_going, .int p_i_writesLeft]))] := hD
  have hP9 := hP.sub (ws' := [(h0, .inr (0, [v_documents, v_buffer, v_fetched, v_compared, v_maker, v_writer, .ref hp, .int i_madeDocuments, .int i_fetchedSteps])), (hp, .inr (4, [.int 1, .int p_i_going, .int p_i_writesLeft]))]) [0, 1] rfl
  have hD9 := hD.sub (ws' := [(h0, .inr (0, [v_documents, v_buffer, v_fetched, v_compared, v_maker, v_writer, .ref hp, .int i_madeDocuments, .int i_fetchedSteps])), (hp, .inr (4, [.int 1, .int p_i_going, .int p_i_writesLeft]))]) [0, 1] (by decide) rfl
  have hK9 := hK.sub (tys' := []) [] rfl
  exact vx_out (fun x hx => (htab x hx).elim) hlocks hce hcv hcl (fun t ht hvm => ⟨(), trivial, ⟨rfl, by rw [ht]; exact hP9, va_K.moved hvm hK9, hD9⟩, hS.F ht⟩) hS.2.2 (by decide +kernel) (by decide +kernel)
set_option maxHeartbeats 4000000 in
set_option maxRecDepth 100000 in
theorem x_common_D (l : Launch) (hl9 : l.stackTraces = false) (dC : Nat → ClassId) (dI : Nat → Nat → Nat) (sz : Nat) (h0 : Nat) (v_documents : Value) (v_buffer : Value) (v_fetched : Value) (v_compared : Value) (v_maker : Value) (v_writer : Value) (i_madeDocuments : Int32) (i_fetchedSteps : Int32) (hp : Nat) (p_i_going : Int32) (p_i_writesLeft : Int32) (a1 : Int32) (a2 : Int32) (a3 : Int32) (a4 : Int32)  : vx_Met l y_K_common k_K_common ({ frames := 7, cells := 1, slots := 6, locals := 105 } : Room) (va_Pc [.ref h0, .int a1, .int a2, .int a3, .int a4] (fun U => pc_E (dC, dI) [(h0, .inr (0, [v_documents, v_buffer, v_fetched, v_compared, v_maker, v_writer, .ref hp, .int i_madeDocuments, .int i_fetchedSteps])), (hp, .inr (4, [.int 1, .int p_i_going, .int p_i_writesLeft]))] [] sz U ∧ tw_ok U)) (va_Qi (fun (_ : Int32) (_ : Unit) => False) (fun _ _ => True) (va_A [(h0, .inr (0, [v_documents, v_buffer, v_fetched, v_compared, v_maker, v_writer, .ref hp, .int i_madeDocuments, .int i_fetchedSteps])), (hp, .inr (4, [.int 1, .int p_i_going, .int p_i_writesLeft]))] sz)) (vx_X (fun _ : Unit => True) (fun E _ t => E = "java/lang/IllegalStateException" ∧ at_E (dC, dI) (va_A [(h0, .inr (0, [v_documents, v_buffer, v_fetched, v_compared, v_maker, v_writer, .ref hp, .int i_madeDocuments, .int i_fetchedSteps])), (hp, .inr (4, [.int 1, .int p_i_going, .int p_i_writesLeft]))] sz) [(h0, .inr (0, [v_documents, v_buffer, v_fetched, v_compared, v_maker, v_writer, .ref hp, .int i_madeDocuments, .int i_fetchedSteps])), (hp, .inr (4, [.int 1, .int p_i_going, .int p_i_writesLeft]))] [] t) (va_A [(h0, .inr (0, [v_documents, v_buffer, v_fetched, v_compared, v_maker, v_writer, .ref hp, .int i_madeDocuments, .int i_fetchedSteps])), (hp, .inr (4, [.int 1, .int p_i_going, .int p_i_writesLeft]))] sz)) 1 6 (va_A [(h0, .inr (0, [v_documents, v_buffer, v_fetched, v_compared, v_maker, v_writer, .ref hp, .int i_madeDocuments, .int i_fetchedSteps])), (hp, .inr (4, [.int 1, .int p_i_going, .int p_i_writesLeft]))] sz) := by
  refine vx_ofW (cc := prog_1_method_16_code) (maxL := 9) (ret := (some .int)) (by decide) rfl ?_
  intro p e s m args below meth c s₁ B hml htab hv
  obtain ⟨rfl, ⟨hsz, hP, hK, hD0, hN⟩, hTw⟩ := hv
  have hx := B.exec
  have hb := B.bytes
  have hr := B.returns
  have hts := atoms_spec (ws := k_K_common) B.pre
  have hw0 : ∀ w ∈ w0, w.before _ s = true := fun w h => hts w (List.mem_cons_of_mem _ h)
  have hown : s.vm.findClass R_K = some m.cls := findClass_of_methodNamed B.named
  have hlocks := B.notSynchronized
  subst hsz
  have hD := hD0.self (sz := s.heap.size)
  have hTwA := tw_A hTw hP
  generalize hAe : va_A [(h0, .inr (0, [v_documents, v_buffer, v_fetched, v_compared, v_maker, v_writer, .ref hp, .int i_madeDocuments, .int i_fetchedSteps])), (hp, .inr (4, [.int 1, .int p_i_going, .int p_i_writesLeft]))] s.heap.size = A at hD hTwA ⊢
  have hA : ∀ q : Nat, s.heap.size ≤ q → A q := fun q h => by rw [← hAe]; exact Or.inr h
  have hS : va_S A s.heap s.heap [] := va_S.rf
  have hP : va_P (dC, dI) vwCl [(h0, .inr (0, [v_documents, v_buffer, v_fetched, v_compared, v_maker, v_writer, .ref hp, .int i_madeDocuments, .int i_fetchedSteps])), (hp, .inr (4, [.int 1, .int p_i_going, .int p_i_writesLeft]))] s.heap := hP
  have hl := lv_entry ([.ref h0, .int a1, .int a2, .int a3, .int a4]) (n := 9) (Nat.le_of_ble_eq_true rfl)
  rw [lg_entry_eq]
  generalize (lg_sl ([.ref h0, .int a1, .int a2, .int a3, .int a4]) ++ List.replicate (9 - (lg_sl ([.ref h0, .int a1, .int a2, .int a3, .int a4])).length) Slot.unset).toArray = ls at hl ⊢
  have hl : lv_has ls 9 [(0, .ref h0), (1, .int a1), (2, .int a2), (3, .int a3), (4, .int a4)] := hl
  refine lv_aload_n hx hb d_K_common_0 rfl (lv_at hl 0 rfl) ?_
  have hPc := hP.sub (ws' := [(h0, .inr (0, [v_documents, v_buffer, v_fetched, v_compared, v_maker, v_writer, .ref hp, .int i_madeDocuments, .int i_fetchedSteps])), (hp, .inr (4, [.int 1, .int p_i_going, .int p_i_writesLeft]))]) [0, 1] rfl
  have hKc := hK.sub (tys' := []) [] rfl
  have hDc := hD.sub (ws' := [(h0, .inr (0, [v_documents, v_buffer, v_fetched, v_compared, v_maker, v_writer, .ref hp, .int i_madeDocuments, .int i_fetchedSteps])), (hp, .inr (4, [.int 1, .int p_i_going, .int p_i_writesLeft]))]) [0, 1] (by decide) rfl
  have hFc := va_free (wc := [(h0, .inr (0, [v_documents, v_buffer, v_fetched, v_compared, v_maker, v_writer, .ref hp, .int i_madeDocuments, .int i_fetchedSteps])), (hp, .inr (4, [.int 1, .int p_i_going, .int p_i_writesLeft]))]) hD hS hA [0, 1] rfl
  refine vx_callv (vx_runV (As := []) (rest := []) ⟨hx, hb, hml, hown, hw0⟩ (x_needPower l hl9 dC dI s.heap.size h0 v_documents v_buffer v_fetched v_compared v_maker v_writer i_madeDocuments i_fetchedSteps hp p_i_going p_i_writesLeft ) (cwV 0 hw0 (gd_V 322 323 324 226 325 rfl rfl rfl rfl rfl) rfl rfl rfl (by decide +kernel) ⟨by decide +kernel, by decide +kernel⟩) (prV_X hPc hKc hDc hN (hTwA.at hS) (va_recv hKc hPc (ci := 0) (q0 := 0) rfl rfl)) rfl rfl hl.1 rfl (lv_room (Nat.le_of_ble_eq_true rfl)) d_K_common_1 ⟨by decide +kernel, by decide +kernel⟩) hS (fun q _ h => hFc q h) hFc (fun q _ h => hFc q h) (fun E ce q9 u t H1 locs ht hvm hw hB hz1 hk1 hS hce hcv hcl => ?_) (fun u t H1 locs ht hvm hw hB hz1 hk1 hS => False.elim hw)
  obtain ⟨rfl, hP1, hK1, hD1⟩ := hB
  rw [ht] at hP1
  have hK1 := va_K.moved hvm.symm hK1
  obtain ⟨hP, hD⟩ := va_join (wr := []) (w1 := [(h0, .inr (0, [v_documents, v_buffer, v_fetched, v_compared, v_maker, v_writer, .ref hp, .int i_madeDocuments, .int i_fetchedSteps])), (hp, .inr (4, [.int 1, .int p_i_going, .int p_i_writesLeft]))]) hP hD [0, 1] [] rfl rfl (by decide) (by decide) hk1 hFc hP1 hD1
  generalize H1 = H at hP hS hce ⊢
  replace hP : va_P (dC, dI) vwCl [(h0, .inr (0, [v_documents, v_buffer, v_fetched, v_compared, v_maker, v_writer, .ref hp, .int i_madeDocuments, .int i_fetchedSteps])), (hp, .inr (4, [.int 1, .int p_i_going, .int p_i_writesLeft]))] H := hP
  replace hD : va_D A [(h0, .inr (0, [v_documents, v_buffer, v_fetched, v_compared, v_maker, v_writer, .ref hp, .int i_madeDocuments, .int i_fetchedSteps])), (hp, .inr (4, [.int 1, .int p_i_going, .int p_i_writesLeft]))] := hD
  have hP9 := hP.sub (ws' := [(h0, .inr (0, [v_documents, v_buffer, v_fetched, v_compared, v_maker, v_writer, .ref hp, .int i_madeDocuments, .int i_fetchedSteps])), (hp, .inr (4, [.int 1, .int p_i_going, .int p_i_writesLeft]))]) [0, 1] rfl
  have hD9 := hD.sub (ws' := [(h0, .inr (0, [v_documents, v_buffer, v_fetched, v_compared, v_maker, v_writer, .ref hp, .int i_madeDocuments, .int i_fetchedSteps])), (hp, .inr (4, [.int 1, .int p_i_going, .int p_i_writesLeft]))]) [0, 1] (by decide) rfl
  have hK9 := hK.sub (tys' := []) [] rfl
  exact vx_out (fun x hx => (htab x hx).elim) hlocks hce hcv hcl (fun t ht hvm => ⟨(), trivial, ⟨rfl, by rw [ht]; exact hP9, va_K.moved hvm hK9, hD9⟩, hS.F ht⟩) hS.2.2 (by decide +kernel) (by decide +kernel)
set_option maxHeartbeats 4000000 in
set_option maxRecDepth 100000 in
theorem x_freeBlocks_D (l : Launch) (hl9 : l.stackTraces = false) (dC : Nat → ClassId) (dI : Nat → Nat → Nat) (sz : Nat) (h0 : Nat) (v_documents : Value) (v_buffer : Value) (v_fetched : Value) (v_compared : Value) (v_maker : Value) (v_writer : Value) (i_madeDocuments : Int32) (i_fetchedSteps : Int32) (hp : Nat) (p_i_going : Int32) (p_i_writesLeft : Int32)  : vx_Met l y_K_freeBlocks k_K_freeBlocks ({ frames := 7, cells := 1, slots := 6, locals := 105 } : Room) (va_Pc [.ref h0] (fun U => pc_E (dC, dI) [(h0, .inr (0, [v_documents, v_buffer, v_fetched, v_compared, v_maker, v_writer, .ref hp, .int i_madeDocuments, .int i_fetchedSteps])), (hp, .inr (4, [.int 1, .int p_i_going, .int p_i_writesLeft]))] [] sz U ∧ tw_ok U)) (va_Qi (fun (_ : Int32) (_ : Unit) => False) (fun _ _ => True) (va_A [(h0, .inr (0, [v_documents, v_buffer, v_fetched, v_compared, v_maker, v_writer, .ref hp, .int i_madeDocuments, .int i_fetchedSteps])), (hp, .inr (4, [.int 1, .int p_i_going, .int p_i_writesLeft]))] sz)) (vx_X (fun _ : Unit => True) (fun E _ t => E = "java/lang/IllegalStateException" ∧ at_E (dC, dI) (va_A [(h0, .inr (0, [v_documents, v_buffer, v_fetched, v_compared, v_maker, v_writer, .ref hp, .int i_madeDocuments, .int i_fetchedSteps])), (hp, .inr (4, [.int 1, .int p_i_going, .int p_i_writesLeft]))] sz) [(h0, .inr (0, [v_documents, v_buffer, v_fetched, v_compared, v_maker, v_writer, .ref hp, .int i_madeDocuments, .int i_fetchedSteps])), (hp, .inr (4, [.int 1, .int p_i_going, .int p_i_writesLeft]))] [] t) (va_A [(h0, .inr (0, [v_documents, v_buffer, v_fetched, v_compared, v_maker, v_writer, .ref hp, .int i_madeDocuments, .int i_fetchedSteps])), (hp, .inr (4, [.int 1, .int p_i_going, .int p_i_writesLeft]))] sz)) 1 6 (va_A [(h0, .inr (0, [v_documents, v_buffer, v_fetched, v_compared, v_maker, v_writer, .ref hp, .int i_madeDocuments, .int i_fetchedSteps])), (hp, .inr (4, [.int 1, .int p_i_going, .int p_i_writesLeft]))] sz) := by
  refine vx_ofW (cc := prog_1_method_17_code) (maxL := 1) (ret := (some .int)) (by decide) rfl ?_
  intro p e s m args below meth c s₁ B hml htab hv
  obtain ⟨rfl, ⟨hsz, hP, hK, hD0, hN⟩, hTw⟩ := hv
  have hx := B.exec
  have hb := B.bytes
  have hr := B.returns
  have hts := atoms_spec (ws := k_K_freeBlocks) B.pre
  have hw0 : ∀ w ∈ w0, w.before _ s = true := fun w h => hts w (List.mem_cons_of_mem _ h)
  have hown : s.vm.findClass R_K = some m.cls := findClass_of_methodNamed B.named
  have hlocks := B.notSynchronized
  subst hsz
  have hD := hD0.self (sz := s.heap.size)
  have hTwA := tw_A hTw hP
  generalize hAe : va_A [(h0, .inr (0, [v_documents, v_buffer, v_fetched, v_compared, v_maker, v_writer, .ref hp, .int i_madeDocuments, .int i_fetchedSteps])), (hp, .inr (4, [.int 1, .int p_i_going, .int p_i_writesLeft]))] s.heap.size = A at hD hTwA ⊢
  have hA : ∀ q : Nat, s.heap.size ≤ q → A q := fun q h => by rw [← hAe]; exact Or.inr h
  have hS : va_S A s.heap s.heap [] := va_S.rf
  have hP : va_P (dC, dI) vwCl [(h0, .inr (0, [v_documents, v_buffer, v_fetched, v_compared, v_maker, v_writer, .ref hp, .int i_madeDocuments, .int i_fetchedSteps])), (hp, .inr (4, [.int 1, .int p_i_going, .int p_i_writesLeft]))] s.heap := hP
  have hl := lv_entry ([.ref h0]) (n := 1) (Nat.le_of_ble_eq_true rfl)
  rw [lg_entry_eq]
  generalize (lg_sl ([.ref h0]) ++ List.replicate (1 - (lg_sl ([.ref h0])).length) Slot.unset).toArray = ls at hl ⊢
  have hl : lv_has ls 1 [(0, .ref h0)] := hl
  refine lv_aload_n hx hb d_K_freeBlocks_0 rfl (lv_at hl 0 rfl) ?_
  have hPc := hP.sub (ws' := [(h0, .inr (0, [v_documents, v_buffer, v_fetched, v_compared, v_maker, v_writer, .ref hp, .int i_madeDocuments, .int i_fetchedSteps])), (hp, .inr (4, [.int 1, .int p_i_going, .int p_i_writesLeft]))]) [0, 1] rfl
  have hKc := hK.sub (tys' := []) [] rfl
  have hDc := hD.sub (ws' := [(h0, .inr (0, [v_documents, v_buffer, v_fetched, v_compared, v_maker, v_writer, .ref hp, .int i_madeDocuments, .int i_fetchedSteps])), (hp, .inr (4, [.int 1, .int p_i_going, .int p_i_writesLeft]))]) [0, 1] (by decide) rfl
  have hFc := va_free (wc := [(h0, .inr (0, [v_documents, v_buffer, v_fetched, v_compared, v_maker, v_writer, .ref hp, .int i_madeDocuments, .int i_fetchedSteps])), (hp, .inr (4, [.int 1, .int p_i_going, .int p_i_writesLeft]))]) hD hS hA [0, 1] rfl
  refine vx_callv (vx_runV (As := []) (rest := []) ⟨hx, hb, hml, hown, hw0⟩ (x_needPower l hl9 dC dI s.heap.size h0 v_documents v_buffer v_fetched v_compared v_maker v_writer i_madeDocuments i_fetchedSteps hp p_i_going p_i_writesLeft ) (cwV 0 hw0 (gd_V 322 323 324 226 325 rfl rfl rfl rfl rfl) rfl rfl rfl (by decide +kernel) ⟨by decide +kernel, by decide +kernel⟩) (prV_X hPc hKc hDc hN (hTwA.at hS) (va_recv hKc hPc (ci := 0) (q0 := 0) rfl rfl)) rfl rfl hl.1 rfl (lv_room (Nat.le_of_ble_eq_true rfl)) d_K_freeBlocks_1 ⟨by decide +kernel, by decide +kernel⟩) hS (fun q _ h => hFc q h) hFc (fun q _ h => hFc q h) (fun E ce q9 u t H1 locs ht hvm hw hB hz1 hk1 hS hce hcv hcl => ?_) (fun u t H1 locs ht hvm hw hB hz1 hk1 hS => False.elim hw)
  obtain ⟨rfl, hP1, hK1, hD1⟩ := hB
  rw [ht] at hP1
  have hK1 := va_K.moved hvm.symm hK1
  obtain ⟨hP, hD⟩ := va_join (wr := []) (w1 := [(h0, .inr (0, [v_documents, v_buffer, v_fetched, v_compared, v_maker, v_writer, .ref hp, .int i_madeDocuments, .int i_fetchedSteps])), (hp, .inr (4, [.int 1, .int p_i_going, .int p_i_writesLeft]))]) hP hD [0, 1] [] rfl rfl (by decide) (by decide) hk1 hFc hP1 hD1
  generalize H1 = H at hP hS hce ⊢
  replace hP : va_P (dC, dI) vwCl [(h0, .inr (0, [v_documents, v_buffer, v_fetched, v_compared, v_maker, v_writer, .ref hp, .int i_madeDocuments, .int i_fetchedSteps])), (hp, .inr (4, [.int 1, .int p_i_going, .int p_i_writesLeft]))] H := hP
  replace hD : va_D A [(h0, .inr (0, [v_documents, v_buffer, v_fetched, v_compared, v_maker, v_writer, .ref hp, .int i_madeDocuments, .int i_fetchedSteps])), (hp, .inr (4, [.int 1, .int p_i_going, .int p_i_writesLeft]))] := hD
  have hP9 := hP.sub (ws' := [(h0, .inr (0, [v_documents, v_buffer, v_fetched, v_compared, v_maker, v_writer, .ref hp, .int i_madeDocuments, .int i_fetchedSteps])), (hp, .inr (4, [.int 1, .int p_i_going, .int p_i_writesLeft]))]) [0, 1] rfl
  have hD9 := hD.sub (ws' := [(h0, .inr (0, [v_documents, v_buffer, v_fetched, v_compared, v_maker, v_writer, .ref hp, .int i_madeDocuments, .int i_fetchedSteps])), (hp, .inr (4, [.int 1, .int p_i_going, .int p_i_writesLeft]))]) [0, 1] (by decide) rfl
  have hK9 := hK.sub (tys' := []) [] rfl
  exact vx_out (fun x hx => (htab x hx).elim) hlocks hce hcv hcl (fun t ht hvm => ⟨(), trivial, ⟨rfl, by rw [ht]; exact hP9, va_K.moved hvm hK9, hD9⟩, hS.F ht⟩) hS.2.2 (by decide +kernel) (by decide +kernel)
set_option maxHeartbeats 4000000 in
set_option maxRecDepth 100000 in
theorem x_cutAfter_D (l : Launch) (hl9 : l.stackTraces = false) (dC : Nat → ClassId) (dI : Nat → Nat → Nat) (sz : Nat) (h0 : Nat) (v_documents : Value) (v_buffer : Value) (v_fetched : Value) (v_compared : Value) (v_maker : Value) (v_writer : Value) (i_madeDocuments : Int32) (i_fetchedSteps : Int32) (hp : Nat) (p_i_going : Int32) (p_i_writesLeft : Int32) (a1 : Int32)  : vx_Met l y_K_cutAfter k_K_cutAfter ({ frames := 7, cells := 1, slots := 6, locals := 105 } : Room) (va_Pc [.ref h0, .int a1] (fun U => pc_E (dC, dI) [(h0, .inr (0, [v_documents, v_buffer, v_fetched, v_compared, v_maker, v_writer, .ref hp, .int i_madeDocuments, .int i_fetchedSteps])), (hp, .inr (4, [.int 1, .int p_i_going, .int p_i_writesLeft]))] [] sz U ∧ tw_ok U)) (va_Qi (fun (_ : Int32) (_ : Unit) => False) (fun _ _ => True) (va_A [(h0, .inr (0, [v_documents, v_buffer, v_fetched, v_compared, v_maker, v_writer, .ref hp, .int i_madeDocuments, .int i_fetchedSteps])), (hp, .inr (4, [.int 1, .int p_i_going, .int p_i_writesLeft]))] sz)) (vx_X (fun _ : Unit => True) (fun E _ t => E = "java/lang/IllegalStateException" ∧ at_E (dC, dI) (va_A [(h0, .inr (0, [v_documents, v_buffer, v_fetched, v_compared, v_maker, v_writer, .ref hp, .int i_madeDocuments, .int i_fetchedSteps])), (hp, .inr (4, [.int 1, .int p_i_going, .int p_i_writesLeft]))] sz) [(h0, .inr (0, [v_documents, v_buffer, v_fetched, v_compared, v_maker, v_writer, .ref hp, .int i_madeDocuments, .int i_fetchedSteps])), (hp, .inr (4, [.int 1, .int p_i_going, .int p_i_writesLeft]))] [] t) (va_A [(h0, .inr (0, [v_documents, v_buffer, v_fetched, v_compared, v_maker, v_writer, .ref hp, .int i_madeDocuments, .int i_fetchedSteps])), (hp, .inr (4, [.int 1, .int p_i_going, .int p_i_writesLeft]))] sz)) 1 6 (va_A [(h0, .inr (0, [v_documents, v_buffer, v_fetched, v_compared, v_maker, v_writer, .ref hp, .int i_madeDocuments, .int i_fetchedSteps])), (hp, .inr (4, [.int 1, .int p_i_going, .int p_i_writesLeft]))] sz) := by
  refine vx_ofW (cc := prog_1_method_18_code) (maxL := 2) (ret := (some .boolean)) (by decide) rfl ?_
  intro p e s m args below meth c s₁ B hml htab hv
  obtain ⟨rfl, ⟨hsz, hP, hK, hD0, hN⟩, hTw⟩ := hv
  have hx := B.exec
  have hb := B.bytes
  have hr := B.returns
  have hts := atoms_spec (ws := k_K_cutAfter) B.pre
  have hw0 : ∀ w ∈ w0, w.before _ s = true := fun w h => hts w (List.mem_cons_of_mem _ h)
  have hown : s.vm.findClass R_K = some m.cls := findClass_of_methodNamed B.named
  have hlocks := B.notSynchronized
  subst hsz
  have hD := hD0.self (sz := s.heap.size)
  have hTwA := tw_A hTw hP
  generalize hAe : va_A [(h0, .inr (0, [v_documents, v_buffer, v_fetched, v_compared, v_maker, v_writer, .ref hp, .int i_madeDocuments, .int i_fetchedSteps])), (hp, .inr (4, [.int 1, .int p_i_going, .int p_i_writesLeft]))] s.heap.size = A at hD hTwA ⊢
  have hA : ∀ q : Nat, s.heap.size ≤ q → A q := fun q h => by rw [← hAe]; exact Or.inr h
  have hS : va_S A s.heap s.heap [] := va_S.rf
  have hP : va_P (dC, dI) vwCl [(h0, .inr (0, [v_documents, v_buffer, v_fetched, v_compared, v_maker, v_writer, .ref hp, .int i_madeDocuments, .int i_fetchedSteps])), (hp, .inr (4, [.int 1, .int p_i_going, .int p_i_writesLeft]))] s.heap := hP
  have hl := lv_entry ([.ref h0, .int a1]) (n := 2) (Nat.le_of_ble_eq_true rfl)
  rw [lg_entry_eq]
  generalize (lg_sl ([.ref h0, .int a1]) ++ List.replicate (2 - (lg_sl ([.ref h0, .int a1])).length) Slot.unset).toArray = ls at hl ⊢
  have hl : lv_has ls 2 [(0, .ref h0), (1, .int a1)] := hl
  refine lv_aload_n hx hb d_K_cutAfter_0 rfl (lv_at hl 0 rfl) ?_
  have hPc := hP.sub (ws' := [(h0, .inr (0, [v_documents, v_buffer, v_fetched, v_compared, v_maker, v_writer, .ref hp, .int i_madeDocuments, .int i_fetchedSteps])), (hp, .inr (4, [.int 1, .int p_i_going, .int p_i_writesLeft]))]) [0, 1] rfl
  have hKc := hK.sub (tys' := []) [] rfl
  have hDc := hD.sub (ws' := [(h0, .inr (0, [v_documents, v_buffer, v_fetched, v_compared, v_maker, v_writer, .ref hp, .int i_madeDocuments, .int i_fetchedSteps])), (hp, .inr (4, [.int 1, .int p_i_going, .int p_i_writesLeft]))]) [0, 1] (by decide) rfl
  have hFc := va_free (wc := [(h0, .inr (0, [v_documents, v_buffer, v_fetched, v_compared, v_maker, v_writer, .ref hp, .int i_madeDocuments, .int i_fetchedSteps])), (hp, .inr (4, [.int 1, .int p_i_going, .int p_i_writesLeft]))]) hD hS hA [0, 1] rfl
  refine vx_callv (vx_runV (As := []) (rest := []) ⟨hx, hb, hml, hown, hw0⟩ (x_needPower l hl9 dC dI s.heap.size h0 v_documents v_buffer v_fetched v_compared v_maker v_writer i_madeDocuments i_fetchedSteps hp p_i_going p_i_writesLeft ) (cwV 0 hw0 (gd_V 322 323 324 226 325 rfl rfl rfl rfl rfl) rfl rfl rfl (by decide +kernel) ⟨by decide +kernel, by decide +kernel⟩) (prV_X hPc hKc hDc hN (hTwA.at hS) (va_recv hKc hPc (ci := 0) (q0 := 0) rfl rfl)) rfl rfl hl.1 rfl (lv_room (Nat.le_of_ble_eq_true rfl)) d_K_cutAfter_1 ⟨by decide +kernel, by decide +kernel⟩) hS (fun q _ h => hFc q h) hFc (fun q _ h => hFc q h) (fun E ce q9 u t H1 locs ht hvm hw hB hz1 hk1 hS hce hcv hcl => ?_) (fun u t H1 locs ht hvm hw hB hz1 hk1 hS => False.elim hw)
  obtain ⟨rfl, hP1, hK1, hD1⟩ := hB
  rw [ht] at hP1
  have hK1 := va_K.moved hvm.symm hK1
  obtain ⟨hP, hD⟩ := va_join (wr := []) (w1 := [(h0, .inr (0, [v_documents, v_buffer, v_fetched, v_compared, v_maker, v_writer, .ref hp, .int i_madeDocuments, .int i_fetchedSteps])), (hp, .inr (4, [.int 1, .int p_i_going, .int p_i_writesLeft]))]) hP hD [0, 1] [] rfl rfl (by decide) (by decide) hk1 hFc hP1 hD1
  generalize H1 = H at hP hS hce ⊢
  replace hP : va_P (dC, dI) vwCl [(h0, .inr (0, [v_documents, v_buffer, v_fetched, v_compared, v_maker, v_writer, .ref hp, .int i_madeDocuments, .int i_fetchedSteps])), (hp, .inr (4, [.int 1, .int p_i_going, .int p_i_writesLeft]))] H := hP
  replace hD : va_D A [(h0, .inr (0, [v_documents, v_buffer, v_fetched, v_compared, v_maker, v_writer, .ref hp, .int i_madeDocuments, .int i_fetchedSteps])), (hp, .inr (4, [.int 1, .int p_i_going, .int p_i_writesLeft]))] := hD
  have hP9 := hP.sub (ws' := [(h0, .inr (0, [v_documents, v_buffer, v_fetched, v_compared, v_maker, v_writer, .ref hp, .int i_madeDocuments, .int i_fetchedSteps])), (hp, .inr (4, [.int 1, .int p_i_going, .int p_i_writesLeft]))]) [0, 1] rfl
  have hD9 := hD.sub (ws' := [(h0, .inr (0, [v_documents, v_buffer, v_fetched, v_compared, v_maker, v_writer, .ref hp, .int i_madeDocuments, .int i_fetchedSteps])), (hp, .inr (4, [.int 1, .int p_i_going, .int p_i_writesLeft]))]) [0, 1] (by decide) rfl
  have hK9 := hK.sub (tys' := []) [] rfl
  exact vx_out (fun x hx => (htab x hx).elim) hlocks hce hcv hcl (fun t ht hvm => ⟨(), trivial, ⟨rfl, by rw [ht]; exact hP9, va_K.moved hvm hK9, hD9⟩, hS.F ht⟩) hS.2.2 (by decide +kernel) (by decide +kernel)
set_option maxHeartbeats 4000000 in
set_option maxRecDepth 100000 in
theorem x_spend (l : Launch) (hl9 : l.stackTraces = false) (dC : Nat → ClassId) (dI : Nat → Nat → Nat) (sz : Nat) (h0 : Nat) (v_documents : Value) (v_fetched : Value) (v_compared : Value) (v_maker : Value) (v_writer : Value) (i_madeDocuments : Int32) (i_fetchedSteps : Int32) (hp : Nat) (go : Option Nat) (wl : Int32) (hb1 : Nat) (hy : Nat) (cB : ClassId) (k : Nat) (f : Nat → Int32) (L : List Int32) (n : Nat) (w9 : Nat) (hg : ∀ w, go = some w → wl = nI w ∧ w < 2 ^ 31) (hn : n < 2 ^ 30) (hw9 : go = some w9) (hlt : w9 < n) (htx : tx L k f) (hk : k ≤ 256) : vx_Met l y_K_spendWrites k_K_spendWrites ({ frames := 6, cells := 1, slots := 6, locals := 85 } : Room) (va_Pc [.ref h0, .int (nI n)] (fun U => pc_E (dC, dI) [(h0, .inr (0, [v_documents, .ref hb1, v_fetched, v_compared, v_maker, v_writer, .ref hp, .int i_madeDocuments, .int i_fetchedSteps])), (hp, .inr (4, [.int 0, .int (bI go.isSome), .int wl])), (hb1, .inr (1, [.ref hy, .int (nI k)])), (hy, .inl (cB, 256, .inl (f)))] [(cB, .byte)] sz U ∧ tw_ok U)) (va_Qv (fun (_ : Unit) => False) (fun _ _ => True) (va_A [(h0, .inr (0, [v_documents, .ref hb1, v_fetched, v_compared, v_maker, v_writer, .ref hp, .int i_madeDocuments, .int i_fetchedSteps])), (hp, .inr (4, [.int 0, .int (bI go.isSome), .int wl])), (hb1, .inr (1, [.ref hy, .int (nI k)])), (hy, .inl (cB, 256, .inl (f)))] sz)) (vx_X (fun _ : Unit => True) (fun E _ t => E = "java/lang/IllegalStateException" ∧ at_E (dC, dI) (va_A [(h0, .inr (0, [v_documents, .ref hb1, v_fetched, v_compared, v_maker, v_writer, .ref hp, .int i_madeDocuments, .int i_fetchedSteps])), (hp, .inr (4, [.int 0, .int (bI go.isSome), .int wl])), (hb1, .inr (1, [.ref hy, .int (nI k)])), (hy, .inl (cB, 256, .inl (f)))] sz) [(h0, .inr (0, [v_documents, .ref hb1, v_fetched, v_compared, v_maker, v_writer, .ref hp, .int i_madeDocuments, .int i_fetchedSteps])), (hp, .inr (4, [.int 1, .int (bI go.isSome), .int wl])), (hb1, .inr (1, [.ref hy, .int (nI 0)])), (hy, .inl (cB, 256, .inl (f)))] [(cB, .byte)] t) (va_A [(h0, .inr (0, [v_documents, .ref hb1, v_fetched, v_compared, v_maker, v_writer, .ref hp, .int i_madeDocuments, .int i_fetchedSteps])), (hp, .inr (4, [.int 0, .int (bI go.isSome), .int wl])), (hb1, .inr (1, [.ref hy, .int (nI k)])), (hy, .inl (cB, 256, .inl (f)))] sz)) 1 6 (va_A [(h0, .inr (0, [v_documents, .ref hb1, v_fetched, v_compared, v_maker, v_writer, .ref hp, .int i_madeDocuments, .int i_fetchedSteps])), (hp, .inr (4, [.int 0, .int (bI go.isSome), .int wl])), (hb1, .inr (1, [.ref hy, .int (nI k)])), (hy, .inl (cB, 256, .inl (f)))] sz) := by
  refine vx_ofW (cc := prog_1_method_22_code) (maxL := 2) (ret := none) (by decide) rfl ?_
  intro p e s m args below meth c s₁ B hml htab hv
  obtain ⟨rfl, ⟨hsz, hP, hK, hD0, hN⟩, hTw⟩ := hv
  have hx := B.exec
  have hb := B.bytes
  have hr := B.returns
  have hts := atoms_spec (ws := k_K_spendWrites) B.pre
  have hw0 : ∀ w ∈ w0, w.before _ s = true := fun w h => hts w (List.mem_cons_of_mem _ h)
  have hown : s.vm.findClass R_K = some m.cls := findClass_of_methodNamed B.named
  have hlocks := B.notSynchronized
  subst hsz
  have hD := hD0.self (sz := s.heap.size)
  have hTwA := tw_A hTw hP
  generalize hAe : va_A [(h0, .inr (0, [v_documents, .ref hb1, v_fetched, v_compared, v_maker, v_writer, .ref hp, .int i_madeDocuments, .int i_fetchedSteps])), (hp, .inr (4, [.int 0, .int (bI go.isSome), .int wl])), (hb1, .inr (1, [.ref hy, .int (nI k)])), (hy, .inl (cB, 256, .inl (f)))] s.heap.size = A at hD hTwA ⊢
  have hA : ∀ q : Nat, s.heap.size ≤ q → A q := fun q h => by rw [← hAe]; exact Or.inr h
  have hS : va_S A s.heap s.heap [] := va_S.rf
  have hP : va_P (dC, dI) vwCl [(h0, .inr (0, [v_documents, .ref hb1, v_fetched, v_compared, v_maker, v_writer, .ref hp, .int i_madeDocuments, .int i_fetchedSteps])), (hp, .inr (4, [.int 0, .int (bI go.isSome), .int wl])), (hb1, .inr (1, [.ref hy, .int (nI k)])), (hy, .inl (cB, 256, .inl (f)))] s.heap := hP
  have hl := lv_entry ([.ref h0, .int (nI n)]) (n := 2) (Nat.le_of_ble_eq_true rfl)
  rw [lg_entry_eq]
  generalize (lg_sl ([.ref h0, .int (nI n)]) ++ List.replicate (2 - (lg_sl ([.ref h0, .int (nI n)])).length) Slot.unset).toArray = ls at hl ⊢
  have hl : lv_has ls 2 [(0, .ref h0), (1, .int (nI n))] := hl
  refine lv_aload_n hx hb d_K_spendWrites_0 rfl (lv_at hl 0 rfl) ?_
  refine va_get (D := (dC, dI)) (ci := 0) (v := .ref hp) (C := R_K) (T := F_K) (N := 9) hx hb hw0 in_K hown hK hP 0 rfl rfl 6 (by decide) (hw0 (.fieldLink R_K 45 "TextKeeper" "power" "LTextKeeper$Power;") (List.mem_of_getElem? (i := 105) rfl)) (fun _ h9 => h9) rfl d_K_spendWrites_1 ?_
  refine lv_iload_n hx hb d_K_spendWrites_4 rfl (lv_at hl 1 rfl) ?_
  have hPc := hP.sub (ws' := [(hp, .inr (4, [.int 0, .int (bI go.isSome), .int wl]))]) [1] rfl
  have hKc := hK.sub (tys' := []) [] rfl
  have hDc := hD.sub (ws' := [(hp, .inr (4, [.int 0, .int (bI go.isSome), .int wl]))]) [1] (by decide) rfl
  have hFc := va_free (wc := [(hp, .inr (4, [.int 0, .int (bI go.isSome), .int wl]))]) hD hS hA [1] rfl
  refine va_calli (va_runV (As := [.int (nI n)]) (rest := []) ⟨hx, hb, hml, hown, hw0⟩ (g_lasts_F l dC dI s.heap.size hp _ wl n w9 (by first | assumption | decide | omega) (by first | assumption | decide | omega) (by first | assumption | decide | omega) (by first | assumption | decide | omega)) (cwV 1 hw0 (gd_V 341 342 343 101 344 rfl rfl rfl rfl rfl) rfl rfl rfl (by decide +kernel) ⟨by decide +kernel, by decide +kernel⟩) (prV_E hPc hKc hDc hN (va_recv hKc hPc (ci := 4) (q0 := 0) rfl rfl)) rfl rfl hl.1 rfl (lv_room (Nat.le_of_ble_eq_true rfl)) d_K_spendWrites_5 ⟨by decide +kernel, by decide +kernel⟩) hS (fun q _ h => hFc q h) hFc (fun r_1 u t H1 locs ht hvm hw hB hz1 hk1 hS => ?_)
  obtain ⟨hP1, hK1, hD1⟩ := hB
  rw [ht] at hP1
  have hK1 := va_K.moved hvm.symm hK1
  try dsimp only at hw
  obtain ⟨hP, hD⟩ := va_join (wr := [(h0, .inr (0, [v_documents, .ref hb1, v_fetched, v_compared, v_maker, v_writer, .ref hp, .int i_madeDocuments, .int i_fetchedSteps])), (hb1, .inr (1, [.ref hy, .int (nI k)])), (hy, .inl (cB, 256, .inl (f)))]) (w1 := [(hp, .inr (4, [.int 1, .int (bI go.isSome), .int wl]))]) hP hD [1] [0, 2, 3] rfl rfl (by decide) (by decide) hk1 hFc hP1 hD1
  generalize H1 = H at hP hS ⊢
  replace hP : va_P (dC, dI) vwCl [(h0, .inr (0, [v_documents, .ref hb1, v_fetched, v_compared, v_maker, v_writer, .ref hp, .int i_madeDocuments, .int i_fetchedSteps])), (hb1, .inr (1, [.ref hy, .int (nI k)])), (hy, .inl (cB, 256, .inl (f))), (hp, .inr (4, [.int 1, .int (bI go.isSome), .int wl]))] H := hP
  replace hD : va_D A [(h0, .inr (0, [v_documents, .ref hb1, v_fetched, v_compared, v_maker, v_writer, .ref hp, .int i_madeDocuments, .int i_fetchedSteps])), (hb1, .inr (1, [.ref hy, .int (nI k)])), (hy, .inl (cB, 256, .inl (f))), (hp, .inr (4, [.int 1, .int (bI go.isSome), .int wl]))] := hD
  replace hK : va_K (dC, dI) vwCl [(cB, .byte)] s := hK
  obtain rfl : r_1 = 0 := hw
  refine lv_if_ne (tgt := 28) hx hb d_K_spendWrites_8 (by decide) (fun h9 => absurd h9 (by decide +kernel)) (fun _ => ?_)
  refine lv_aload_n hx hb d_K_spendWrites_11 rfl (lv_at hl 0 rfl) ?_
  refine va_get (D := (dC, dI)) (ci := 0) (v := .ref hb1) (C := R_K) (T := F_K) (N := 9) hx hb hw0 in_K hown hK hP 0 rfl rfl 1 (by decide) (hw0 (.fieldLink R_K 18 "TextKeeper" "buffer" "LTextKeeper$Text;") (List.mem_of_getElem? (i := 82) rfl)) (fun _ h9 => h9) rfl d_K_spendWrites_12 ?_
  refine lv_iconst (v := 0) hx hb d_K_spendWrites_15 (by decide) ?_
  have hPc := hP.sub (ws' := [(hb1, .inr (1, [.ref hy, .int (nI k)])), (hy, .inl (cB, 256, .inl ((f))))]) [1, 2] rfl
  have hKc := hK.sub (tys' := [(cB, .byte)]) [0] rfl
  have hDc := hD.sub (ws' := [(hb1, .inr (1, [.ref hy, .int (nI k)])), (hy, .inl (cB, 256, .inl ((f))))]) [1, 2] (by decide) rfl
  have hFc := va_free (wc := [(hb1, .inr (1, [.ref hy, .int (nI k)])), (hy, .inl (cB, 256, .inl ((f))))]) hD hS hA [1, 2] rfl
  refine va_calli (va_runV (As := [.int 0]) (rest := []) ⟨hx, hb, hml, hown, hw0⟩ (g_shorten_T l dC dI H.size hb1 hy cB k (f) L 0 (by first | assumption | decide | omega) (by first | assumption | decide | omega) (by first | assumption | decide | omega)) (cwV 1 hw0 (gd_V 331 236 237 69 238 rfl rfl rfl rfl rfl) rfl rfl rfl (by decide +kernel) ⟨by decide +kernel, by decide +kernel⟩) (prV_E hPc hKc hDc hN (va_recv hKc hPc (ci := 1) (q0 := 0) rfl rfl)) rfl rfl hl.1 rfl (lv_room (Nat.le_of_ble_eq_true rfl)) d_K_spendWrites_16 ⟨by decide +kernel, by decide +kernel⟩) hS (fun q _ h => hFc q h) hFc (fun r_3 u t H1 locs ht hvm hw hB hz1 hk1 hS => ?_)
  obtain ⟨hu_4, hP1, hK1, hD1⟩ := hB
  rw [ht] at hP1
  have hK1 := va_K.moved hvm.symm hK1
  try dsimp only at hw
  obtain ⟨hP, hD⟩ := va_join (wr := [(h0, .inr (0, [v_documents, .ref hb1, v_fetched, v_compared, v_maker, v_writer, .ref hp, .int i_madeDocuments, .int i_fetchedSteps])), (hp, .inr (4, [.int 1, .int (bI go.isSome), .int wl]))]) (w1 := [(hb1, .inr (1, [.ref hy, .int (nI 0)])), (hy, .inl (cB, 256, .inl ((f))))]) hP hD [1, 2] [0, 3] rfl rfl (by decide) (by decide) hk1 hFc hP1 hD1
  generalize H1 = H at hP hS ⊢
  replace hP : va_P (dC, dI) vwCl [(h0, .inr (0, [v_documents, .ref hb1, v_fetched, v_compared, v_maker, v_writer, .ref hp, .int i_madeDocuments, .int i_fetchedSteps])), (hp, .inr (4, [.int 1, .int (bI go.isSome), .int wl])), (hb1, .inr (1, [.ref hy, .int (nI 0)])), (hy, .inl (cB, 256, .inl ((f))))] H := hP
  replace hD : va_D A [(h0, .inr (0, [v_documents, .ref hb1, v_fetched, v_compared, v_maker, v_writer, .ref hp, .int i_madeDocuments, .int i_fetchedSteps])), (hp, .inr (4, [.int 1, .int (bI go.isSome), .int wl])), (hb1, .inr (1, [.ref hy, .int (nI 0)])), (hy, .inl (cB, 256, .inl ((f))))] := hD
  replace hK : va_K (dC, dI) vwCl [(cB, .byte)] s := hK
  obtain rfl : r_3 = 1 := hw
  refine lv_pop hx hb d_K_spendWrites_19 rfl ?_
  have hP9 := hP.sub (ws' := [(h0, .inr (0, [v_documents, .ref hb1, v_fetched, v_compared, v_maker, v_writer, .ref hp, .int i_madeDocuments, .int i_fetchedSteps])), (hp, .inr (4, [.int 1, .int (bI go.isSome), .int wl])), (hb1, .inr (1, [.ref hy, .int (nI 0)])), (hy, .inl (cB, 256, .inl (f)))]) [0, 1, 2, 3] rfl
  have hD9 := hD.sub (ws' := [(h0, .inr (0, [v_documents, .ref hb1, v_fetched, v_compared, v_maker, v_writer, .ref hp, .int i_madeDocuments, .int i_fetchedSteps])), (hp, .inr (4, [.int 1, .int (bI go.isSome), .int wl])), (hb1, .inr (1, [.ref hy, .int (nI 0)])), (hy, .inl (cB, 256, .inl (f)))]) [0, 1, 2, 3] (by decide) rfl
  have hK9 := hK.sub (tys' := [(cB, .byte)]) [0] rfl
  have tw_at : ∀ w ∈ vx_at0 "TextKeeper" 189 "java/lang/IllegalStateException" ["java/lang/RuntimeException", "java/lang/Exception"], w.before _ s = true := vx_hat (fun w h => hw0 w (twS_1 w h)) twS_2 (fun w h => va_Nw.use (nw0_tab w h) (hN.1 w h))
  exact vx_throw0 (names := ["java/lang/RuntimeException", "java/lang/Exception"]) (ik := 187) (ic := 189) (A := A) hx hb hl9 hown (by decide +kernel) (by decide +kernel) (hw0 (.classLink "TextKeeper" 187 "java/lang/IllegalStateException") (List.mem_of_getElem? (i := 432) rfl)) (hw0 (.initialized "java/lang/IllegalStateException") (List.mem_of_getElem? (i := 428) rfl)) tw_at twS_g hTwA.1 hTwA.2 hS (by rw [hml]; exact hl.1) d_K_spendWrites_20 d_K_spendWrites_23 d_K_spendWrites_24 d_K_spendWrites_27 (fun x hx => (htab x hx).elim) (by decide +kernel) (by decide +kernel) (by decide +kernel) (by decide +kernel) hlocks (fun t hvm hz hk => ⟨(), trivial, ⟨rfl, hP9.kept (fun k q hq => hk _ ((hP9 k q hq).lt)), va_K.moved hvm hK9, hD9⟩, Nat.le_trans hS.1 hz, fun q h hn => (hk q (Nat.lt_of_lt_of_le h hS.1)).trans (hS.2.1 q h hn)⟩) hS.2.2 (by decide +kernel) (by decide +kernel)
