set_option maxHeartbeats 4000000 in
set_option maxRecDepth 100000 in
theorem x_rev_D0 (l : Launch) (hl9 : l.stackTraces = false) (dC : Nat → ClassId) (dI : Nat → Nat → Nat) (sz : Nat) (h0 : Nat) (v_buffer : Value) (v_fetched : Value) (v_compared : Value) (v_maker : Value) (v_writer : Value) (i_madeDocuments : Int32) (i_fetchedSteps : Int32) (hp : Nat) (p_i_going : Int32) (p_i_writesLeft : Int32) (hd : Nat) (cD : ClassId) (fD : Nat → Option Nat) (a1 : Int32) (a2 : Int32) (a3 : Int32) (hdN : atN 8 fD a1 = none) : vx_Met l y_K_revision k_K_revision ({ frames := 6, cells := 1, slots := 6, locals := 85 } : Room) (va_Pc [.ref h0, .int a1, .int a2, .int a3] (fun U => pc_E (dC, dI) [(h0, .inr (0, [.ref hd, v_buffer, v_fetched, v_compared, v_maker, v_writer, .ref hp, .int i_madeDocuments, .int i_fetchedSteps])), (hp, .inr (4, [.int 0, .int p_i_going, .int p_i_writesLeft])), (hd, .inl (cD, 8, .inr (.inr (.inr (.inr (fD))))))] [(cD, .object R_D)] sz U ∧ tw_ok U)) (va_Qi (fun (_ : Int32) (_ : Unit) => False) (fun _ _ => True) (va_A [(h0, .inr (0, [.ref hd, v_buffer, v_fetched, v_compared, v_maker, v_writer, .ref hp, .int i_madeDocuments, .int i_fetchedSteps])), (hp, .inr (4, [.int 0, .int p_i_going, .int p_i_writesLeft])), (hd, .inl (cD, 8, .inr (.inr (.inr (.inr (fD))))))] sz)) (vx_X (fun _ : Unit => True) (fun E _ t => E = "java/util/NoSuchElementException" ∧ at_E (dC, dI) (va_A [(h0, .inr (0, [.ref hd, v_buffer, v_fetched, v_compared, v_maker, v_writer, .ref hp, .int i_madeDocuments, .int i_fetchedSteps])), (hp, .inr (4, [.int 0, .int p_i_going, .int p_i_writesLeft])), (hd, .inl (cD, 8, .inr (.inr (.inr (.inr (fD))))))] sz) [(h0, .inr (0, [.ref hd, v_buffer, v_fetched, v_compared, v_maker, v_writer, .ref hp, .int i_madeDocuments, .int i_fetchedSteps])), (hp, .inr (4, [.int 0, .int p_i_going, .int p_i_writesLeft])), (hd, .inl (cD, 8, .inr (.inr (.inr (.inr (fD))))))] [(cD, .object R_D)] t) (va_A [(h0, .inr (0, [.ref hd, v_buffer, v_fetched, v_compared, v_maker, v_writer, .ref hp, .int i_madeDocuments, .int i_fetchedSteps])), (hp, .inr (4, [.int 0, .int p_i_going, .int p_i_writesLeft])), (hd, .inl (cD, 8, .inr (.inr (.inr (.inr (fD))))))] sz)) 1 6 (va_A [(h0, .inr (0, [.ref hd, v_buffer, v_fetched, v_compared, v_maker, v_writer, .ref hp, .int i_madeDocuments, .int i_fetchedSteps])), (hp, .inr (4, [.int 0, .int p_i_going, .int p_i_writesLeft])), (hd, .inl (cD, 8, .inr (.inr (.inr (.inr (fD))))))] sz) := by
  refine vx_ofW (cc := prog_1_method_12_code) (maxL := 7) (ret := (some .int)) (by decide) rfl ?_
  intro p e s m args below meth c s₁ B hml htab hv
  obtain ⟨rfl, ⟨hsz, hP, hK, hD0, hN⟩, hTw⟩ := hv
  have hx := B.exec
  have hb := B.bytes
  have hr := B.returns
  have hts := atoms_spec (ws := k_K_revision) B.pre
  have hw0 : ∀ w ∈ w0, w.before _ s = true := fun w h => hts w (List.mem_cons_of_mem _ h)
  have hown : s.vm.findClass R_K = some m.cls := findClass_of_methodNamed B.named
  have hlocks := B.notSynchronized
  subst hsz
  have hD := hD0.self (sz := s.heap.size)
  have hTwA := tw_A hTw hP
  generalize hAe : va_A [(h0, .inr (0, [.ref hd, v_buffer, v_fetched, v_compared, v_maker, v_writer, .ref hp, .int i_madeDocuments, .int i_fetchedSteps])), (hp, .inr (4, [.int 0, .int p_i_going, .int p_i_writesLeft])), (hd, .inl (cD, 8, .inr (.inr (.inr (.inr (fD))))))] s.heap.size = A at hD hTwA ⊢
  have hA : ∀ q : Nat, s.heap.size ≤ q → A q := fun q h => by rw [← hAe]; exact Or.inr h
  have hS : va_S A s.heap s.heap [] := va_S.rf
  have hP : va_P (dC, dI) vwCl [(h0, .inr (0, [.ref hd, v_buffer, v_fetched, v_compared, v_maker, v_writer, .ref hp, .int i_madeDocuments, .int i_fetchedSteps])), (hp, .inr (4, [.int 0, .int p_i_going, .int p_i_writesLeft])), (hd, .inl (cD, 8, .inr (.inr (.inr (.inr (fD))))))] s.heap := hP
  have hl := lv_entry ([.ref h0, .int a1, .int a2, .int a3]) (n := 7) (Nat.le_of_ble_eq_true rfl)
  rw [lg_entry_eq]
  generalize (lg_sl ([.ref h0, .int a1, .int a2, .int a3]) ++ List.replicate (7 - (lg_sl ([.ref h0, .int a1, .int a2, .int a3])).length) Slot.unset).toArray = ls at hl ⊢
  have hl : lv_has ls 7 [(0, .ref h0), (1, .int a1), (2, .int a2), (3, .int a3)] := hl
  refine lv_aload_n hx hb d_K_revision_0 rfl (lv_at hl 0 rfl) ?_
  have hPc := hP.sub (ws' := [(h0, .inr (0, [.ref hd, v_buffer, v_fetched, v_compared, v_maker, v_writer, .ref hp, .int i_madeDocuments, .int i_fetchedSteps])), (hp, .inr (4, [.int 0, .int p_i_going, .int p_i_writesLeft]))]) [0, 1] rfl
  have hKc := hK.sub (tys' := []) [] rfl
  refine ps_v (va_runV (As := []) (rest := []) ⟨hx, hb, hml, hown, hw0⟩ (g_needPower l dC dI h0 (.ref hd) v_buffer v_fetched v_compared v_maker v_writer i_madeDocuments i_fetchedSteps hp p_i_going p_i_writesLeft) (cwV 0 hw0 (gd_V 322 323 324 226 325 rfl rfl rfl rfl rfl) rfl rfl rfl (by decide +kernel) ⟨by decide +kernel, by decide +kernel⟩) (prV_R hPc hKc hN (va_recv hKc hPc (ci := 0) (q0 := 0) rfl rfl)) rfl rfl hl.1 rfl (lv_room (Nat.le_of_ble_eq_true rfl)) d_K_revision_1 ⟨by decide +kernel, by decide +kernel⟩) ?_
  refine lv_aload_n hx hb d_K_revision_4 rfl (lv_at hl 0 rfl) ?_
  refine lv_iload_n hx hb d_K_revision_5 rfl (lv_at hl 1 rfl) ?_
  have hPc := hP.sub (ws' := [(h0, .inr (0, [.ref hd, v_buffer, v_fetched, v_compared, v_maker, v_writer, .ref hp, .int i_madeDocuments, .int i_fetchedSteps])), (hd, .inl (cD, 8, .inr (.inr (.inr (.inr ((fD)))))))]) [0, 2] rfl
  have hKc := hK.sub (tys' := [(cD, .object R_D)]) [0] rfl
  refine ps_q (va_runV (As := [.int a1]) (rest := []) ⟨hx, hb, hml, hown, hw0⟩ (g_docAt_N l dC dI h0 v_buffer v_fetched v_compared v_maker v_writer (.ref hp) i_madeDocuments i_fetchedSteps hd cD (fD) a1 (by first | assumption | decide | omega)) (cwV 1 hw0 (gd_V 317 318 319 226 320 rfl rfl rfl rfl rfl) rfl rfl rfl (by decide +kernel) ⟨by decide +kernel, by decide +kernel⟩) (prV_R hPc hKc hN (va_recv hKc hPc (ci := 0) (q0 := 0) rfl rfl)) rfl rfl hl.1 rfl (lv_room (Nat.le_of_ble_eq_true rfl)) d_K_revision_6 ⟨by decide +kernel, by decide +kernel⟩) (fun r_1 hr_1 => ?_)
  obtain rfl : r_1 = none := hr_1
  refine W.eq (g2 := F0 m 9 ls [.null]) rfl ?_
  refine lv_astoreN (lv' := [(4, .null), (0, .ref h0), (1, .int a1), (2, .int a2), (3, .int a3)]) hx hb d_K_revision_9 hl (by decide) rfl (fun ls hl => ?_)
  refine lv_aload_n hx hb d_K_revision_11 rfl (lv_at hl 1 rfl) ?_
  refine lv_iload_n hx hb d_K_revision_12 rfl (lv_at hl 2 rfl) ?_
  refine lv_iload_n hx hb d_K_revision_13 rfl (lv_at hl 3 rfl) ?_
  have hPc := hP.sub (ws' := [(h0, .inr (0, [.ref hd, v_buffer, v_fetched, v_compared, v_maker, v_writer, .ref hp, .int i_madeDocuments, .int i_fetchedSteps])), (hd, .inl (cD, 8, .inr (.inr (.inr (.inr ((fD)))))))]) [0, 2] rfl
  have hKc := hK.sub (tys' := [(cD, .object R_D)]) [0] rfl
  refine ps_q (va_runV (As := [.int a1, .int a2]) (rest := []) ⟨hx, hb, hml, hown, hw0⟩ (g_keptR_D l dC dI h0 v_buffer v_fetched v_compared v_maker v_writer (.ref hp) i_madeDocuments i_fetchedSteps hd cD (fD) a1 a2 (by first | assumption | decide | omega)) (cwV 2 hw0 (gd_V 345 346 347 226 348 rfl rfl rfl rfl rfl) rfl rfl rfl (by decide +kernel) ⟨by decide +kernel, by decide +kernel⟩) (prV_R hPc hKc hN (va_recv hKc hPc (ci := 0) (q0 := 0) rfl rfl)) rfl rfl hl.1 rfl (lv_room (Nat.le_of_ble_eq_true rfl)) d_K_revision_14 ⟨by decide +kernel, by decide +kernel⟩) (fun r_2 hr_2 => ?_)
  obtain rfl : r_2 = none := hr_2
  refine W.eq (g2 := F0 m 17 ls [.null]) rfl ?_
  refine lv_astoreN (lv' := [(5, .null), (4, .null), (0, .ref h0), (1, .int a1), (2, .int a2), (3, .int a3)]) hx hb d_K_revision_17 hl (by decide) rfl (fun ls hl => ?_)
  refine lv_aloadN hx hb d_K_revision_19 (lv_at hl 1 rfl) ?_
  refine lv_ifnullN (tgt := 37) hx hb d_K_revision_21 (by decide) ?_
  refine lv_iconst (v := 0) hx hb d_K_revision_37 (by decide) ?_
  refine lv_istore (lv' := [(6, .int 0), (5, .null), (4, .null), (0, .ref h0), (1, .int a1), (2, .int a2), (3, .int a3)]) hx hb d_K_revision_38 hl (by decide) rfl (fun ls hl => ?_)
  refine lv_aloadN hx hb d_K_revision_40 (lv_at hl 1 rfl) ?_
  refine lv_ifnullN (tgt := 59) hx hb d_K_revision_42 (by decide) ?_
  have hP9 := hP.sub (ws' := [(h0, .inr (0, [.ref hd, v_buffer, v_fetched, v_compared, v_maker, v_writer, .ref hp, .int i_madeDocuments, .int i_fetchedSteps])), (hp, .inr (4, [.int 0, .int p_i_going, .int p_i_writesLeft])), (hd, .inl (cD, 8, .inr (.inr (.inr (.inr (fD))))))]) [0, 1, 2] rfl
  have hD9 := hD.sub (ws' := [(h0, .inr (0, [.ref hd, v_buffer, v_fetched, v_compared, v_maker, v_writer, .ref hp, .int i_madeDocuments, .int i_fetchedSteps])), (hp, .inr (4, [.int 0, .int p_i_going, .int p_i_writesLeft])), (hd, .inl (cD, 8, .inr (.inr (.inr (.inr (fD))))))]) [0, 1, 2] (by decide) rfl
  have hK9 := hK.sub (tys' := [(cD, .object R_D)]) [0] rfl
  have tw_at : ∀ w ∈ vx_at0 "TextKeeper" 142 "java/util/NoSuchElementException" ["java/lang/RuntimeException", "java/lang/Exception"], w.before _ s = true := vx_hat (fun w h => hw0 w (twN_1 w h)) twN_2 (fun w h => va_Nw.use (nw0_tab w h) (hN.1 w h))
  exact vx_throw0 (names := ["java/lang/RuntimeException", "java/lang/Exception"]) (ik := 140) (ic := 142) (A := A) hx hb hl9 hown (by decide +kernel) (by decide +kernel) (hw0 (.classLink "TextKeeper" 140 "java/util/NoSuchElementException") (List.mem_of_getElem? (i := 479) rfl)) (hw0 (.initialized "java/util/NoSuchElementException") (List.mem_of_getElem? (i := 429) rfl)) tw_at twN_g hTwA.1 hTwA.2 hS (by rw [hml]; exact hl.1) d_K_revision_59 d_K_revision_62 d_K_revision_63 d_K_revision_66 (fun x hx => (htab x hx).elim) (by decide +kernel) (by decide +kernel) (by decide +kernel) (by decide +kernel) hlocks (fun t hvm hz hk => ⟨(), trivial, ⟨rfl, hP9.kept (fun k q hq => hk _ ((hP9 k q hq).lt)), va_K.moved hvm hK9, hD9⟩, Nat.le_trans hS.1 hz, fun q h hn => (hk q (Nat.lt_of_lt_of_le h hS.1)).trans (hS.2.1 q h hn)⟩) hS.2.2 (by decide +kernel) (by decide +kernel)
set_option maxHeartbeats 4000000 in
set_option maxRecDepth 100000 in
theorem x_rev_K0 (l : Launch) (hl9 : l.stackTraces = false) (dC : Nat → ClassId) (dI : Nat → Nat → Nat) (sz : Nat) (h0 : Nat) (v_buffer : Value) (v_fetched : Value) (v_compared : Value) (v_maker : Value) (v_writer : Value) (i_madeDocuments : Int32) (i_fetchedSteps : Int32) (hp : Nat) (p_i_going : Int32) (p_i_writesLeft : Int32) (hd : Nat) (cD : ClassId) (fD : Nat → Option Nat) (hdo : Nat) (hra : Nat) (cR : ClassId) (df : Nat) (dn : Nat) (fr : Nat → Option Nat) (a1 : Int32) (a2 : Int32) (a3 : Int32) (hdS : atN 8 fD a1 = some hdo) (hdn : dn ≤ 64) (hna : a2 < nI df ∨ nI dn ≤ a2) (hkN : atN dn fr a2 = none) : vx_Met l y_K_revision k_K_revision ({ frames := 6, cells := 1, slots := 6, locals := 85 } : Room) (va_Pc [.ref h0, .int a1, .int a2, .int a3] (fun U => pc_E (dC, dI) [(h0, .inr (0, [.ref hd, v_buffer, v_fetched, v_compared, v_maker, v_writer, .ref hp, .int i_madeDocuments, .int i_fetchedSteps])), (hp, .inr (4, [.int 0, .int p_i_going, .int p_i_writesLeft])), (hd, .inl (cD, 8, .inr (.inr (.inr (.inr (fD)))))), (hdo, .inr (5, [.ref hra, .int (nI df), .int (nI dn)])), (hra, .inl (cR, 64, .inr (.inr (.inr (.inr (fr))))))] [(cD, .object R_D), (cR, .object R_V)] sz U ∧ tw_ok U)) (va_Qi (fun (_ : Int32) (_ : Unit) => False) (fun _ _ => True) (va_A [(h0, .inr (0, [.ref hd, v_buffer, v_fetched, v_compared, v_maker, v_writer, .ref hp, .int i_madeDocuments, .int i_fetchedSteps])), (hp, .inr (4, [.int 0, .int p_i_going, .int p_i_writesLeft])), (hd, .inl (cD, 8, .inr (.inr (.inr (.inr (fD)))))), (hdo, .inr (5, [.ref hra, .int (nI df), .int (nI dn)])), (hra, .inl (cR, 64, .inr (.inr (.inr (.inr (fr))))))] sz)) (vx_X (fun _ : Unit => True) (fun E _ t => E = "java/util/NoSuchElementException" ∧ at_E (dC, dI) (va_A [(h0, .inr (0, [.ref hd, v_buffer, v_fetched, v_compared, v_maker, v_writer, .ref hp, .int i_madeDocuments, .int i_fetchedSteps])), (hp, .inr (4, [.int 0, .int p_i_going, .int p_i_writesLeft])), (hd, .inl (cD, 8, .inr (.inr (.inr (.inr (fD)))))), (hdo, .inr (5, [.ref hra, .int (nI df), .int (nI dn)])), (hra, .inl (cR, 64, .inr (.inr (.inr (.inr (fr))))))] sz) [(h0, .inr (0, [.ref hd, v_buffer, v_fetched, v_compared, v_maker, v_writer, .ref hp, .int i_madeDocuments, .int i_fetchedSteps])), (hp, .inr (4, [.int 0, .int p_i_going, .int p_i_writesLeft])), (hd, .inl (cD, 8, .inr (.inr (.inr (.inr (fD)))))), (hdo, .inr (5, [.ref hra, .int (nI df), .int (nI dn)])), (hra, .inl (cR, 64, .inr (.inr (.inr (.inr (fr))))))] [(cD, .object R_D), (cR, .object R_V)] t) (va_A [(h0, .inr (0, [.ref hd, v_buffer, v_fetched, v_compared, v_maker, v_writer, .ref hp, .int i_madeDocuments, .int i_fetchedSteps])), (hp, .inr (4, [.int 0, .int p_i_going, .int p_i_writesLeft])), (hd, .inl (cD, 8, .inr (.inr (.inr (.inr (fD)))))), (hdo, .inr (5, [.ref hra, .int (nI df), .int (nI dn)])), (hra, .inl (cR, 64, .inr (.inr (.inr (.inr (fr))))))] sz)) 1 6 (va_A [(h0, .inr (0, [.ref hd, v_buffer, v_fetched, v_compared, v_maker, v_writer, .ref hp, .int i_madeDocuments, .int i_fetchedSteps])), (hp, .inr (4, [.int 0, .int p_i_going, .int p_i_writesLeft])), (hd, .inl (cD, 8, .inr (.inr (.inr (.inr (fD)))))), (hdo, .inr (5, [.ref hra, .int (nI df), .int (nI dn)])), (hra, .inl (cR, 64, .inr (.inr (.inr (.inr (fr))))))] sz) := by
  refine vx_ofW (cc := prog_1_method_12_code) (maxL := 7) (ret := (some .int)) (by decide) rfl ?_
  intro p e s m args below meth c s₁ B hml htab hv
  obtain ⟨rfl, ⟨hsz, hP, hK, hD0, hN⟩, hTw⟩ := hv
  have hx := B.exec
  have hb := B.bytes
  have hr := B.returns
  have hts := atoms_spec (ws := k_K_revision) B.pre
  have hw0 : ∀ w ∈ w0, w.before _ s = true := fun w h => hts w (List.mem_cons_of_mem _ h)
  have hown : s.vm.findClass R_K = some m.cls := findClass_of_methodNamed B.named
  have hlocks := B.notSynchronized
  subst hsz
  have hD := hD0.self (sz := s.heap.size)
  have hTwA := tw_A hTw hP
  generalize hAe : va_A [(h0, .inr (0, [.ref hd, v_buffer, v_fetched, v_compared, v_maker, v_writer, .ref hp, .int i_madeDocuments, .int i_fetchedSteps])), (hp, .inr (4, [.int 0, .int p_i_going, .int p_i_writesLeft])), (hd, .inl (cD, 8, .inr (.inr (.inr (.inr (fD)))))), (hdo, .inr (5, [.ref hra, .int (nI df), .int (nI dn)])), (hra, .inl (cR, 64, .inr (.inr (.inr (.inr (fr))))))] s.heap.size = A at hD hTwA ⊢
  have hA : ∀ q : Nat, s.heap.size ≤ q → A q := fun q h => by rw [← hAe]; exact Or.inr h
  have hS : va_S A s.heap s.heap [] := va_S.rf
  have hP : va_P (dC, dI) vwCl [(h0, .inr (0, [.ref hd, v_buffer, v_fetched, v_compared, v_maker, v_writer, .ref hp, .int i_madeDocuments, .int i_fetchedSteps])), (hp, .inr (4, [.int 0, .int p_i_going, .int p_i_writesLeft])), (hd, .inl (cD, 8, .inr (.inr (.inr (.inr (fD)))))), (hdo, .inr (5, [.ref hra, .int (nI df), .int (nI dn)])), (hra, .inl (cR, 64, .inr (.inr (.inr (.inr (fr))))))] s.heap := hP
  have hl := lv_entry ([.ref h0, .int a1, .int a2, .int a3]) (n := 7) (Nat.le_of_ble_eq_true rfl)
  rw [lg_entry_eq]
  generalize (lg_sl ([.ref h0, .int a1, .int a2, .int a3]) ++ List.replicate (7 - (lg_sl ([.ref h0, .int a1, .int a2, .int a3])).length) Slot.unset).toArray = ls at hl ⊢
  have hl : lv_has ls 7 [(0, .ref h0), (1, .int a1), (2, .int a2), (3, .int a3)] := hl
  refine lv_aload_n hx hb d_K_revision_0 rfl (lv_at hl 0 rfl) ?_
  have hPc := hP.sub (ws' := [(h0, .inr (0, [.ref hd, v_buffer, v_fetched, v_compared, v_maker, v_writer, .ref hp, .int i_madeDocuments, .int i_fetchedSteps])), (hp, .inr (4, [.int 0, .int p_i_going, .int p_i_writesLeft]))]) [0, 1] rfl
  have hKc := hK.sub (tys' := []) [] rfl
  refine ps_v (va_runV (As := []) (rest := []) ⟨hx, hb, hml, hown, hw0⟩ (g_needPower l dC dI h0 (.ref hd) v_buffer v_fetched v_compared v_maker v_writer i_madeDocuments i_fetchedSteps hp p_i_going p_i_writesLeft) (cwV 0 hw0 (gd_V 322 323 324 226 325 rfl rfl rfl rfl rfl) rfl rfl rfl (by decide +kernel) ⟨by decide +kernel, by decide +kernel⟩) (prV_R hPc hKc hN (va_recv hKc hPc (ci := 0) (q0 := 0) rfl rfl)) rfl rfl hl.1 rfl (lv_room (Nat.le_of_ble_eq_true rfl)) d_K_revision_1 ⟨by decide +kernel, by decide +kernel⟩) ?_
  refine lv_aload_n hx hb d_K_revision_4 rfl (lv_at hl 0 rfl) ?_
  refine lv_iload_n hx hb d_K_revision_5 rfl (lv_at hl 1 rfl) ?_
  have hPc := hP.sub (ws' := [(h0, .inr (0, [.ref hd, v_buffer, v_fetched, v_compared, v_maker, v_writer, .ref hp, .int i_madeDocuments, .int i_fetchedSteps])), (hd, .inl (cD, 8, .inr (.inr (.inr (.inr ((fD)))))))]) [0, 2] rfl
  have hKc := hK.sub (tys' := [(cD, .object R_D)]) [0] rfl
  refine ps_q (va_runV (As := [.int a1]) (rest := []) ⟨hx, hb, hml, hown, hw0⟩ (g_docAt_S l dC dI h0 v_buffer v_fetched v_compared v_maker v_writer (.ref hp) i_madeDocuments i_fetchedSteps hd cD (fD) a1 hdo (by first | assumption | decide | omega)) (cwV 1 hw0 (gd_V 317 318 319 226 320 rfl rfl rfl rfl rfl) rfl rfl rfl (by decide +kernel) ⟨by decide +kernel, by decide +kernel⟩) (prV_R hPc hKc hN (va_recv hKc hPc (ci := 0) (q0 := 0) rfl rfl)) rfl rfl hl.1 rfl (lv_room (Nat.le_of_ble_eq_true rfl)) d_K_revision_6 ⟨by decide +kernel, by decide +kernel⟩) (fun r_1 hr_1 => ?_)
  obtain rfl : r_1 = some hdo := hr_1
  refine W.eq (g2 := F0 m 9 ls [.ref hdo]) rfl ?_
  refine lv_astore (lv' := [(4, .ref hdo), (0, .ref h0), (1, .int a1), (2, .int a2), (3, .int a3)]) hx hb d_K_revision_9 hl (by decide) rfl (fun ls hl => ?_)
  refine lv_aload_n hx hb d_K_revision_11 rfl (lv_at hl 1 rfl) ?_
  refine lv_iload_n hx hb d_K_revision_12 rfl (lv_at hl 2 rfl) ?_
  refine lv_iload_n hx hb d_K_revision_13 rfl (lv_at hl 3 rfl) ?_
  have hPc := hP.sub (ws' := [(h0, .inr (0, [.ref hd, v_buffer, v_fetched, v_compared, v_maker, v_writer, .ref hp, .int i_madeDocuments, .int i_fetchedSteps])), (hd, .inl (cD, 8, .inr (.inr (.inr (.inr ((fD))))))), (hdo, .inr (5, [.ref hra, .int (nI df), .int (nI dn)])), (hra, .inl (cR, 64, .inr (.inr (.inr (.inr ((fr)))))))]) [0, 2, 3, 4] rfl
  have hKc := hK.sub (tys' := [(cD, .object R_D), (cR, .object R_V)]) [0, 1] rfl
  refine ps_q (va_runV (As := [.int a1, .int a2]) (rest := []) ⟨hx, hb, hml, hown, hw0⟩ (g_keptR_N l dC dI h0 v_buffer v_fetched v_compared v_maker v_writer (.ref hp) i_madeDocuments i_fetchedSteps hd cD (fD) _ hra cR df dn (fr) a1 a2 (by first | assumption | decide | omega) (by first | assumption | decide | omega) (by first | assumption | decide | omega)) (cwV 2 hw0 (gd_V 345 346 347 226 348 rfl rfl rfl rfl rfl) rfl rfl rfl (by decide +kernel) ⟨by decide +kernel, by decide +kernel⟩) (prV_R hPc hKc hN (va_recv hKc hPc (ci := 0) (q0 := 0) rfl rfl)) rfl rfl hl.1 rfl (lv_room (Nat.le_of_ble_eq_true rfl)) d_K_revision_14 ⟨by decide +kernel, by decide +kernel⟩) (fun r_2 hr_2 => ?_)
  obtain rfl : r_2 = none := hr_2
  refine W.eq (g2 := F0 m 17 ls [.null]) rfl ?_
  refine lv_astoreN (lv' := [(5, .null), (4, .ref hdo), (0, .ref h0), (1, .int a1), (2, .int a2), (3, .int a3)]) hx hb d_K_revision_17 hl (by decide) rfl (fun ls hl => ?_)
  refine lv_aload hx hb d_K_revision_19 (lv_at hl 1 rfl) ?_
  refine lv_ifnull hx hb d_K_revision_21 ?_
  refine lv_aload hx hb d_K_revision_24 (lv_at hl 1 rfl) ?_
  refine lv_iload_n hx hb d_K_revision_26 rfl (lv_at hl 4 rfl) ?_
  have hPc := hP.sub (ws' := [(hdo, .inr (5, [.ref hra, .int (nI df), .int (nI dn)])), (hra, .inl (cR, 64, .inr (.inr (.inr (.inr ((fr)))))))]) [3, 4] rfl
  have hKc := hK.sub (tys' := [(cR, .object R_V)]) [1] rfl
  refine ps_i (va_runV (As := [.int a2]) (rest := []) ⟨hx, hb, hml, hown, hw0⟩ (g_asked_F l dC dI hdo hra cR df dn (fr) a2 (by first | assumption | decide | omega)) (cwV 1 hw0 (gd_V 370 371 372 233 373 rfl rfl rfl rfl rfl) rfl rfl rfl (by decide +kernel) ⟨by decide +kernel, by decide +kernel⟩) (prV_R hPc hKc hN (va_recv hKc hPc (ci := 5) (q0 := 0) rfl rfl)) rfl rfl hl.1 rfl (lv_room (Nat.le_of_ble_eq_true rfl)) d_K_revision_27 ⟨by decide +kernel, by decide +kernel⟩) (fun r_3 hr_3 => ?_)
  obtain rfl : r_3 = 0 := hr_3
  refine lv_if_eq (tgt := 37) hx hb d_K_revision_30 (by decide) (fun _ => ?_) (fun h9 => absurd h9 (by decide +kernel))
  refine lv_iconst (v := 0) hx hb d_K_revision_37 (by decide) ?_
  refine lv_istore (lv' := [(6, .int 0), (5, .null), (4, .ref hdo), (0, .ref h0), (1, .int a1), (2, .int a2), (3, .int a3)]) hx hb d_K_revision_38 hl (by decide) rfl (fun ls hl => ?_)
  refine lv_aloadN hx hb d_K_revision_40 (lv_at hl 1 rfl) ?_
  refine lv_ifnullN (tgt := 59) hx hb d_K_revision_42 (by decide) ?_
  have hP9 := hP.sub (ws' := [(h0, .inr (0, [.ref hd, v_buffer, v_fetched, v_compared, v_maker, v_writer, .ref hp, .int i_madeDocuments, .int i_fetchedSteps])), (hp, .inr (4, [.int 0, .int p_i_going, .int p_i_writesLeft])), (hd, .inl (cD, 8, .inr (.inr (.inr (.inr (fD)))))), (hdo, .inr (5, [.ref hra, .int (nI df), .int (nI dn)])), (hra, .inl (cR, 64, .inr (.inr (.inr (.inr (fr))))))]) [0, 1, 2, 3, 4] rfl
  have hD9 := hD.sub (ws' := [(h0, .inr (0, [.ref hd, v_buffer, v_fetched, v_compared, v_maker, v_writer, .ref hp, .int i_madeDocuments, .int i_fetchedSteps])), (hp, .inr (4, [.int 0, .int p_i_going, .int p_i_writesLeft])), (hd, .inl (cD, 8, .inr (.inr (.inr (.inr (fD)))))), (hdo, .inr (5, [.ref hra, .int (nI df), .int (nI dn)])), (hra, .inl (cR, 64, .inr (.inr (.inr (.inr (fr))))))]) [0, 1, 2, 3, 4] (by decide) rfl
  have hK9 := hK.sub (tys' := [(cD, .object R_D), (cR, .object R_V)]) [0, 1] rfl
  have tw_at : ∀ w ∈ vx_at0 "TextKeeper" 142 "java/util/NoSuchElementException" ["java/lang/RuntimeException", "java/lang/Exception"], w.before _ s = true := vx_hat (fun w h => hw0 w (twN_1 w h)) twN_2 (fun w h => va_Nw.use (nw0_tab w h) (hN.1 w h))
  exact vx_throw0 (names := ["java/lang/RuntimeException", "java/lang/Exception"]) (ik := 140) (ic := 142) (A := A) hx hb hl9 hown (by decide +kernel) (by decide +kernel) (hw0 (.classLink "TextKeeper" 140 "java/util/NoSuchElementException") (List.mem_of_getElem? (i := 479) rfl)) (hw0 (.initialized "java/util/NoSuchElementException") (List.mem_of_getElem? (i := 429) rfl)) tw_at twN_g hTwA.1 hTwA.2 hS (by rw [hml]; exact hl.1) d_K_revision_59 d_K_revision_62 d_K_revision_63 d_K_revision_66 (fun x hx => (htab x hx).elim) (by decide +kernel) (by decide +kernel) (by decide +kernel) (by decide +kernel) hlocks (fun t hvm hz hk => ⟨(), trivial, ⟨rfl, hP9.kept (fun k q hq => hk _ ((hP9 k q hq).lt)), va_K.moved hvm hK9, hD9⟩, Nat.le_trans hS.1 hz, fun q h hn => (hk q (Nat.lt_of_lt_of_le h hS.1)).trans (hS.2.1 q h hn)⟩) hS.2.2 (by decide +kernel) (by decide +kernel)
set_option maxHeartbeats 4000000 in
set_option maxRecDepth 100000 in
theorem x_rev_F (l : Launch) (hl9 : l.stackTraces = false) (dC : Nat → ClassId) (dI : Nat → Nat → Nat) (sz : Nat) (h0 : Nat) (v_buffer : Value) (v_fetched : Value) (v_compared : Value) (v_maker : Value) (v_writer : Value) (i_madeDocuments : Int32) (i_fetchedSteps : Int32) (hp : Nat) (p_i_going : Int32) (p_i_writesLeft : Int32) (hd : Nat) (cD : ClassId) (fD : Nat → Option Nat) (hdo : Nat) (hra : Nat) (cR : ClassId) (df : Nat) (dn : Nat) (fr : Nat → Option Nat) (hv : Nat) (hpi : Nat) (cB : ClassId) (np : Nat) (fp : Nat → Int32) (au : Int32) (sm : Int32) (a1 : Int32) (a2 : Int32) (a3 : Int32) (hdS : atN 8 fD a1 = some hdo) (hdn : dn ≤ 64) (hna : a2 < nI df ∨ nI dn ≤ a2) (hkS : atN dn fr a2 = some hv) (hw0x : ¬ a3 = 0) (hw2x : ¬ a3 = 2) : vx_Met l y_K_revision k_K_revision ({ frames := 6, cells := 1, slots := 6, locals := 85 } : Room) (va_Pc [.ref h0, .int a1, .int a2, .int a3] (fun U => pc_E (dC, dI) [(h0, .inr (0, [.ref hd, v_buffer, v_fetched, v_compared, v_maker, v_writer, .ref hp, .int i_madeDocuments, .int i_fetchedSteps])), (hp, .inr (4, [.int 0, .int p_i_going, .int p_i_writesLeft])), (hd, .inl (cD, 8, .inr (.inr (.inr (.inr (fD)))))), (hdo, .inr (5, [.ref hra, .int (nI df), .int (nI dn)])), (hra, .inl (cR, 64, .inr (.inr (.inr (.inr (fr)))))), (hv, .inr (6, [.ref hpi, .int au, .int sm])), (hpi, .inl (cB, np, .inl (fp)))] [(cD, .object R_D), (cR, .object R_V), (cB, .byte)] sz U ∧ tw_ok U)) (va_Qi (fun (_ : Int32) (_ : Unit) => False) (fun _ _ => True) (va_A [(h0, .inr (0, [.ref hd, v_buffer, v_fetched, v_compared, v_maker, v_writer, .ref hp, .int i_madeDocuments, .int i_fetchedSteps])), (hp, .inr (4, [.int 0, .int p_i_going, .int p_i_writesLeft])), (hd, .inl (cD, 8, .inr (.inr (.inr (.inr (fD)))))), (hdo, .inr (5, [.ref hra, .int (nI df), .int (nI dn)])), (hra, .inl (cR, 64, .inr (.inr (.inr (.inr (fr)))))), (hv, .inr (6, [.ref hpi, .int au, .int sm])), (hpi, .inl (cB, np, .inl (fp)))] sz)) (vx_X (fun _ : Unit => True) (fun E _ t => E = "java/util/NoSuchElementException" ∧ at_E (dC, dI) (va_A [(h0, .inr (0, [.ref hd, v_buffer, v_fetched, v_compared, v_maker, v_writer, .ref hp, .int i_madeDocuments, .int i_fetchedSteps])), (hp, .inr (4, [.int 0, .int p_i_going, .int p_i_writesLeft])), (hd, .inl (cD, 8, .inr (.inr (.inr (.inr (fD)))))), (hdo, .inr (5, [.ref hra, .int (nI df), .int (nI dn)])), (hra, .inl (cR, 64, .inr (.inr (.inr (.inr (fr)))))), (hv, .inr (6, [.ref hpi, .int au, .int sm])), (hpi, .inl (cB, np, .inl (fp)))] sz) [(h0, .inr (0, [.ref hd, v_buffer, v_fetched, v_compared, v_maker, v_writer, .ref hp, .int i_madeDocuments, .int i_fetchedSteps])), (hp, .inr (4, [.int 0, .int p_i_going, .int p_i_writesLeft])), (hd, .inl (cD, 8, .inr (.inr (.inr (.inr (fD)))))), (hdo, .inr (5, [.ref hra, .int (nI df), .int (nI dn)])), (hra, .inl (cR, 64, .inr (.inr (.inr (.inr (fr)))))), (hv, .inr (6, [.ref hpi, .int au, .int sm])), (hpi, .inl (cB, np, .inl (fp)))] [(cD, .object R_D), (cR, .object R_V), (cB, .byte)] t) (va_A [(h0, .inr (0, [.ref hd, v_buffer, v_fetched, v_compared, v_maker, v_writer, .ref hp, .int i_madeDocuments, .int i_fetchedSteps])), (hp, .inr (4, [.int 0, .int p_i_going, .int p_i_writesLeft])), (hd, .inl (cD, 8, .inr (.inr (.inr (.inr (fD)))))), (hdo, .inr (5, [.ref hra, .int (nI df), .int (nI dn)])), (hra, .inl (cR, 64, .inr (.inr (.inr (.inr (fr)))))), (hv, .inr (6, [.ref hpi, .int au, .int sm])), (hpi, .inl (cB, np, .inl (fp)))] sz)) 1 6 (va_A [(h0, .inr (0, [.ref hd, v_buffer, v_fetched, v_compared, v_maker, v_writer, .ref hp, .int i_madeDocuments, .int i_fetchedSteps])), (hp, .inr (4, [.int 0, .int p_i_going, .int p_i_writesLeft])), (hd, .inl (cD, 8, .inr (.inr (.inr (.inr (fD)))))), (hdo, .inr (5, [.ref hra, .int (nI df), .int (nI dn)])), (hra, .inl (cR, 64, .inr (.inr (.inr (.inr (fr)))))), (hv, .inr (6, [.ref hpi, .int au, .int sm])), (hpi, .inl (cB, np, .inl (fp)))] sz) := by
  refine vx_ofW (cc := prog_1_method_12_code) (maxL := 7) (ret := (some .int)) (by decide) rfl ?_
  intro p e s m args below meth c s₁ B hml htab hv
  obtain ⟨rfl, ⟨hsz, hP, hK, hD0, hN⟩, hTw⟩ := hv
  have hx := B.exec
  have hb := B.bytes
  have hr := B.returns
  have hts := atoms_spec (ws := k_K_revision) B.pre
  have hw0 : ∀ w ∈ w0, w.before _ s = true := fun w h => hts w (List.mem_cons_of_mem _ h)
  have hown : s.vm.findClass R_K = some m.cls := findClass_of_methodNamed B.named
  have hlocks := B.notSynchronized
  subst hsz
  have hD := hD0.self (sz := s.heap.size)
  have hTwA := tw_A hTw hP
  generalize hAe : va_A [(h0, .inr (0, [.ref hd, v_buffer, v_fetched, v_compared, v_maker, v_writer, .ref hp, .int i_madeDocuments, .int i_fetchedSteps])), (hp, .inr (4, [.int 0, .int p_i_going, .int p_i_writesLeft])), (hd, .inl (cD, 8, .inr (.inr (.inr (.inr (fD)))))), (hdo, .inr (5, [.ref hra, .int (nI df), .int (nI dn)])), (hra, .inl (cR, 64, .inr (.inr (.inr (.inr (fr)))))), (hv, .inr (6, [.ref hpi, .int au, .int sm])), (hpi, .inl (cB, np, .inl (fp)))] s.heap.size = A at hD hTwA ⊢
  have hA : ∀ q : Nat, s.heap.size ≤ q → A q := fun q h => by rw [← hAe]; exact Or.inr h
  have hS : va_S A s.heap s.heap [] := va_S.rf
  have hP : va_P (dC, dI) vwCl [(h0, .inr (0, [.ref hd, v_buffer, v_fetched, v_compared, v_maker, v_writer, .ref hp, .int i_madeDocuments, .int i_fetchedSteps])), (hp, .inr (4, [.int 0, .int p_i_going, .int p_i_writesLeft])), (hd, .inl (cD, 8, .inr (.inr (.inr (.inr (fD)))))), (hdo, .inr (5, [.ref hra, .int (nI df), .int (nI dn)])), (hra, .inl (cR, 64, .inr (.inr (.inr (.inr (fr)))))), (hv, .inr (6, [.ref hpi, .int au, .int sm])), (hpi, .inl (cB, np, .inl (fp)))] s.heap := hP
  have hl := lv_entry ([.ref h0, .int a1, .int a2, .int a3]) (n := 7) (Nat.le_of_ble_eq_true rfl)
  rw [lg_entry_eq]
  generalize (lg_sl ([.ref h0, .int a1, .int a2, .int a3]) ++ List.replicate (7 - (lg_sl ([.ref h0, .int a1, .int a2, .int a3])).length) Slot.unset).toArray = ls at hl ⊢
  have hl : lv_has ls 7 [(0, .ref h0), (1, .int a1), (2, .int a2), (3, .int a3)] := hl
  refine lv_aload_n hx hb d_K_revision_0 rfl (lv_at hl 0 rfl) ?_
  have hPc := hP.sub (ws' := [(h0, .inr (0, [.ref hd, v_buffer, v_fetched, v_compared, v_maker, v_writer, .ref hp, .int i_madeDocuments, .int i_fetchedSteps])), (hp, .inr (4, [.int 0, .int p_i_going, .int p_i_writesLeft]))]) [0, 1] rfl
  have hKc := hK.sub (tys' := []) [] rfl
  refine ps_v (va_runV (As := []) (rest := []) ⟨hx, hb, hml, hown, hw0⟩ (g_needPower l dC dI h0 (.ref hd) v_buffer v_fetched v_compared v_maker v_writer i_madeDocuments i_fetchedSteps hp p_i_going p_i_writesLeft) (cwV 0 hw0 (gd_V 322 323 324 226 325 rfl rfl rfl rfl rfl) rfl rfl rfl (by decide +kernel) ⟨by decide +kernel, by decide +kernel⟩) (prV_R hPc hKc hN (va_recv hKc hPc (ci := 0) (q0 := 0) rfl rfl)) rfl rfl hl.1 rfl (lv_room (Nat.le_of_ble_eq_true rfl)) d_K_revision_1 ⟨by decide +kernel, by decide +kernel⟩) ?_
  refine lv_aload_n hx hb d_K_revision_4 rfl (lv_at hl 0 rfl) ?_
  refine lv_iload_n hx hb d_K_revision_5 rfl (lv_at hl 1 rfl) ?_
  have hPc := hP.sub (ws' := [(h0, .inr (0, [.ref hd, v_buffer, v_fetched, v_compared, v_maker, v_writer, .ref hp, .int i_madeDocuments, .int i_fetchedSteps])), (hd, .inl (cD, 8, .inr (.inr (.inr (.inr ((fD)))))))]) [0, 2] rfl
  have hKc := hK.sub (tys' := [(cD, .object R_D)]) [0] rfl
  refine ps_q (va_runV (As := [.int a1]) (rest := []) ⟨hx, hb, hml, hown, hw0⟩ (g_docAt_S l dC dI h0 v_buffer v_fetched v_compared v_maker v_writer (.ref hp) i_madeDocuments i_fetchedSteps hd cD (fD) a1 hdo (by first | assumption | decide | omega)) (cwV 1 hw0 (gd_V 317 318 319 226 320 rfl rfl rfl rfl rfl) rfl rfl rfl (by decide +kernel) ⟨by decide +kernel, by decide +kernel⟩) (prV_R hPc hKc hN (va_recv hKc hPc (ci := 0) (q0 := 0) rfl rfl)) rfl rfl hl.1 rfl (lv_room (Nat.le_of_ble_eq_true rfl)) d_K_revision_6 ⟨by decide +kernel, by decide +kernel⟩) (fun r_1 hr_1 => ?_)
  obtain rfl : r_1 = some hdo := hr_1
  refine W.eq (g2 := F0 m 9 ls [.ref hdo]) rfl ?_
  refine lv_astore (lv' := [(4, .ref hdo), (0, .ref h0), (1, .int a1), (2, .int a2), (3, .int a3)]) hx hb d_K_revision_9 hl (by decide) rfl (fun ls hl => ?_)
  refine lv_aload_n hx hb d_K_revision_11 rfl (lv_at hl 1 rfl) ?_
  refine lv_iload_n hx hb d_K_revision_12 rfl (lv_at hl 2 rfl) ?_
  refine lv_iload_n hx hb d_K_revision_13 rfl (lv_at hl 3 rfl) ?_
  have hPc := hP.sub (ws' := [(h0, .inr (0, [.ref hd, v_buffer, v_fetched, v_compared, v_maker, v_writer, .ref hp, .int i_madeDocuments, .int i_fetchedSteps])), (hd, .inl (cD, 8, .inr (.inr (.inr (.inr ((fD))))))), (hdo, .inr (5, [.ref hra, .int (nI df), .int (nI dn)])), (hra, .inl (cR, 64, .inr (.inr (.inr (.inr ((fr)))))))]) [0, 2, 3, 4] rfl
  have hKc := hK.sub (tys' := [(cD, .object R_D), (cR, .object R_V)]) [0, 1] rfl
  refine ps_q (va_runV (As := [.int a1, .int a2]) (rest := []) ⟨hx, hb, hml, hown, hw0⟩ (g_keptR_S l dC dI h0 v_buffer v_fetched v_compared v_maker v_writer (.ref hp) i_madeDocuments i_fetchedSteps hd cD (fD) _ hra cR df dn (fr) a1 a2 hv (by first | assumption | decide | omega) (by first | assumption | decide | omega) (by first | assumption | decide | omega)) (cwV 2 hw0 (gd_V 345 346 347 226 348 rfl rfl rfl rfl rfl) rfl rfl rfl (by decide +kernel) ⟨by decide +kernel, by decide +kernel⟩) (prV_R hPc hKc hN (va_recv hKc hPc (ci := 0) (q0 := 0) rfl rfl)) rfl rfl hl.1 rfl (lv_room (Nat.le_of_ble_eq_true rfl)) d_K_revision_14 ⟨by decide +kernel, by decide +kernel⟩) (fun r_2 hr_2 => ?_)
  obtain rfl : r_2 = some hv := hr_2
  refine W.eq (g2 := F0 m 17 ls [.ref hv]) rfl ?_
  refine lv_astore (lv' := [(5, .ref hv), (4, .ref hdo), (0, .ref h0), (1, .int a1), (2, .int a2), (3, .int a3)]) hx hb d_K_revision_17 hl (by decide) rfl (fun ls hl => ?_)
  refine lv_aload hx hb d_K_revision_19 (lv_at hl 1 rfl) ?_
  refine lv_ifnull hx hb d_K_revision_21 ?_
  refine lv_aload hx hb d_K_revision_24 (lv_at hl 1 rfl) ?_
  refine lv_iload_n hx hb d_K_revision_26 rfl (lv_at hl 4 rfl) ?_
  have hPc := hP.sub (ws' := [(hdo, .inr (5, [.ref hra, .int (nI df), .int (nI dn)])), (hra, .inl (cR, 64, .inr (.inr (.inr (.inr ((fr)))))))]) [3, 4] rfl
  have hKc := hK.sub (tys' := [(cR, .object R_V)]) [1] rfl
  refine ps_i (va_runV (As := [.int a2]) (rest := []) ⟨hx, hb, hml, hown, hw0⟩ (g_asked_F l dC dI hdo hra cR df dn (fr) a2 (by first | assumption | decide | omega)) (cwV 1 hw0 (gd_V 370 371 372 233 373 rfl rfl rfl rfl rfl) rfl rfl rfl (by decide +kernel) ⟨by decide +kernel, by decide +kernel⟩) (prV_R hPc hKc hN (va_recv hKc hPc (ci := 5) (q0 := 0) rfl rfl)) rfl rfl hl.1 rfl (lv_room (Nat.le_of_ble_eq_true rfl)) d_K_revision_27 ⟨by decide +kernel, by decide +kernel⟩) (fun r_3 hr_3 => ?_)
  obtain rfl : r_3 = 0 := hr_3
  refine lv_if_eq (tgt := 37) hx hb d_K_revision_30 (by decide) (fun _ => ?_) (fun h9 => absurd h9 (by decide +kernel))
  refine lv_iconst (v := 0) hx hb d_K_revision_37 (by decide) ?_
  refine lv_istore (lv' := [(6, .int 0), (5, .ref hv), (4, .ref hdo), (0, .ref h0), (1, .int a1), (2, .int a2), (3, .int a3)]) hx hb d_K_revision_38 hl (by decide) rfl (fun ls hl => ?_)
  refine lv_aload hx hb d_K_revision_40 (lv_at hl 1 rfl) ?_
  refine lv_ifnull hx hb d_K_revision_42 ?_
  refine lv_iload hx hb d_K_revision_45 (lv_at hl 0 rfl) ?_
  refine lv_if_ne (tgt := 67) hx hb d_K_revision_47 (by decide) (fun h9 => absurd h9 (by decide +kernel)) (fun _ => ?_)
  refine lv_iload_n hx hb d_K_revision_50 rfl (lv_at hl 6 rfl) ?_
  refine lv_if_eq (tgt := 67) hx hb d_K_revision_51 (by decide) (fun c_4 => absurd c_4 hw0x) (fun c_4 => ?_)
  refine lv_iload_n hx hb d_K_revision_54 rfl (lv_at hl 6 rfl) ?_
  refine lv_iconst (v := 2) hx hb d_K_revision_55 (by decide) ?_
  refine lv_icmp_eq (tgt := 67) hx hb d_K_revision_56 (by decide) (fun c_5 => absurd c_5 hw2x) (fun c_5 => ?_)
  have hP9 := hP.sub (ws' := [(h0, .inr (0, [.ref hd, v_buffer, v_fetched, v_compared, v_maker, v_writer, .ref hp, .int i_madeDocuments, .int i_fetchedSteps])), (hp, .inr (4, [.int 0, .int p_i_going, .int p_i_writesLeft])), (hd, .inl (cD, 8, .inr (.inr (.inr (.inr (fD)))))), (hdo, .inr (5, [.ref hra, .int (nI df), .int (nI dn)])), (hra, .inl (cR, 64, .inr (.inr (.inr (.inr (fr)))))), (hv, .inr (6, [.ref hpi, .int au, .int sm])), (hpi, .inl (cB, np, .inl (fp)))]) [0, 1, 2, 3, 4, 5, 6] rfl
  have hD9 := hD.sub (ws' := [(h0, .inr (0, [.ref hd, v_buffer, v_fetched, v_compared, v_maker, v_writer, .ref hp, .int i_madeDocuments, .int i_fetchedSteps])), (hp, .inr (4, [.int 0, .int p_i_going, .int p_i_writesLeft])), (hd, .inl (cD, 8, .inr (.inr (.inr (.inr (fD)))))), (hdo, .inr (5, [.ref hra, .int (nI df), .int (nI dn)])), (hra, .inl (cR, 64, .inr (.inr (.inr (.inr (fr)))))), (hv, .inr (6, [.ref hpi, .int au, .int sm])), (hpi, .inl (cB, np, .inl (fp)))]) [0, 1, 2, 3, 4, 5, 6] (by decide) rfl
  have hK9 := hK.sub (tys' := [(cD, .object R_D), (cR, .object R_V), (cB, .byte)]) [0, 1, 2] rfl
  have tw_at : ∀ w ∈ vx_at0 "TextKeeper" 142 "java/util/NoSuchElementException" ["java/lang/RuntimeException", "java/lang/Exception"], w.before _ s = true := vx_hat (fun w h => hw0 w (twN_1 w h)) twN_2 (fun w h => va_Nw.use (nw0_tab w h) (hN.1 w h))
  exact vx_throw0 (names := ["java/lang/RuntimeException", "java/lang/Exception"]) (ik := 140) (ic := 142) (A := A) hx hb hl9 hown (by decide +kernel) (by decide +kernel) (hw0 (.classLink "TextKeeper" 140 "java/util/NoSuchElementException") (List.mem_of_getElem? (i := 479) rfl)) (hw0 (.initialized "java/util/NoSuchElementException") (List.mem_of_getElem? (i := 429) rfl)) tw_at twN_g hTwA.1 hTwA.2 hS (by rw [hml]; exact hl.1) d_K_revision_59 d_K_revision_62 d_K_revision_63 d_K_revision_66 (fun x hx => (htab x hx).elim) (by decide +kernel) (by decide +kernel) (by decide +kernel) (by decide +kernel) hlocks (fun t hvm hz hk => ⟨(), trivial, ⟨rfl, hP9.kept (fun k q hq => hk _ ((hP9 k q hq).lt)), va_K.moved hvm hK9, hD9⟩, Nat.le_trans hS.1 hz, fun q h hn => (hk q (Nat.lt_of_lt_of_le h hS.1)).trans (hS.2.1 q h hn)⟩) hS.2.2 (by decide +kernel) (by decide +kernel)
set_option maxHeartbeats 4000000 in
set_option maxRecDepth 100000 in
theorem g_rev_F0 (l : Launch) (dC : Nat → ClassId) (dI : Nat → Nat → Nat) (h0 : Nat) (v_buffer : Value) (v_fetched : Value) (v_compared : Value) (v_maker : Value) (v_writer : Value) (i_madeDocuments : Int32) (i_fetchedSteps : Int32) (hp : Nat) (p_i_going : Int32) (p_i_writesLeft : Int32) (hd : Nat) (cD : ClassId) (fD : Nat → Option Nat) (hdo : Nat) (hra : Nat) (cR : ClassId) (df : Nat) (dn : Nat) (fr : Nat → Option Nat) (hv : Nat) (hpi : Nat) (cB : ClassId) (np : Nat) (fp : Nat → Int32) (au : Int32) (sm : Int32) (a1 : Int32) (a2 : Int32) (hdS : atN 8 fD a1 = some hdo) (hdn : dn ≤ 64) (hna : a2 < nI df ∨ nI dn ≤ a2) (hkS : atN dn fr a2 = some hv) : Met l y_K_revision k_K_revision ({ frames := 2, cells := 0, slots := 0, locals := 44 } : Room) (va_Pc [.ref h0, .int a1, .int a2, .int 0] (pc_R (dC, dI) [(h0, .inr (0, [.ref hd, v_buffer, v_fetched, v_compared, v_maker, v_writer, .ref hp, .int i_madeDocuments, .int i_fetchedSteps])), (hp, .inr (4, [.int 0, .int p_i_going, .int p_i_writesLeft])), (hd, .inl (cD, 8, .inr (.inr (.inr (.inr (fD)))))), (hdo, .inr (5, [.ref hra, .int (nI df), .int (nI dn)])), (hra, .inl (cR, 64, .inr (.inr (.inr (.inr (fr)))))), (hv, .inr (6, [.ref hpi, .int au, .int sm])), (hpi, .inl (cB, np, .inl (fp)))] [(cD, .object R_D), (cR, .object R_V), (cB, .byte)])) (vp_Si (fun r => r = nI np)) 0 0 (fun _ => False) := by
  refine Met.ofW (cc := prog_1_method_12_code) (maxL := 7) (ret := (some .int)) (by decide) rfl ?_
  intro p e s m args below meth c s₁ B hml hv
  obtain ⟨rfl, hP, hK, hN⟩ := hv
  have hx := B.exec
  have hb := B.bytes
  have hr := B.returns
  have hts := atoms_spec (ws := k_K_revision) B.pre
  have hw0 : ∀ w ∈ w0, w.before _ s = true := fun w h => hts w (List.mem_cons_of_mem _ h)
  have hown : s.vm.findClass R_K = some m.cls := findClass_of_methodNamed B.named
  have hlocks := B.notSynchronized
  have hP : va_P (dC, dI) vwCl [(h0, .inr (0, [.ref hd, v_buffer, v_fetched, v_compared, v_maker, v_writer, .ref hp, .int i_madeDocuments, .int i_fetchedSteps])), (hp, .inr (4, [.int 0, .int p_i_going, .int p_i_writesLeft])), (hd, .inl (cD, 8, .inr (.inr (.inr (.inr (fD)))))), (hdo, .inr (5, [.ref hra, .int (nI df), .int (nI dn)])), (hra, .inl (cR, 64, .inr (.inr (.inr (.inr (fr)))))), (hv, .inr (6, [.ref hpi, .int au, .int sm])), (hpi, .inl (cB, np, .inl (fp)))] s.heap := hP
  have hl := lv_entry ([.ref h0, .int a1, .int a2, .int 0]) (n := 7) (Nat.le_of_ble_eq_true rfl)
  rw [lg_entry_eq]
  generalize (lg_sl ([.ref h0, .int a1, .int a2, .int 0]) ++ List.replicate (7 - (lg_sl ([.ref h0, .int a1, .int a2, .int 0])).length) Slot.unset).toArray = ls at hl ⊢
  have hl : lv_has ls 7 [(0, .ref h0), (1, .int a1), (2, .int a2), (3, .int 0)] := hl
  refine lv_aload_n hx hb d_K_revision_0 rfl (lv_at hl 0 rfl) ?_
  have hPc := hP.sub (ws' := [(h0, .inr (0, [.ref hd, v_buffer, v_fetched, v_compared, v_maker, v_writer, .ref hp, .int i_madeDocuments, .int i_fetchedSteps])), (hp, .inr (4, [.int 0, .int p_i_going, .int p_i_writesLeft]))]) [0, 1] rfl
  have hKc := hK.sub (tys' := []) [] rfl
  refine ps_v (va_runV (As := []) (rest := []) ⟨hx, hb, hml, hown, hw0⟩ (g_needPower l dC dI h0 (.ref hd) v_buffer v_fetched v_compared v_maker v_writer i_madeDocuments i_fetchedSteps hp p_i_going p_i_writesLeft) (cwV 0 hw0 (gd_V 322 323 324 226 325 rfl rfl rfl rfl rfl) rfl rfl rfl (by decide +kernel) ⟨by decide +kernel, by decide +kernel⟩) (prV_R hPc hKc hN (va_recv hKc hPc (ci := 0) (q0 := 0) rfl rfl)) rfl rfl hl.1 rfl (lv_room (Nat.le_of_ble_eq_true rfl)) d_K_revision_1 ⟨by decide +kernel, by decide +kernel⟩) ?_
  refine lv_aload_n hx hb d_K_revision_4 rfl (lv_at hl 0 rfl) ?_
  refine lv_iload_n hx hb d_K_revision_5 rfl (lv_at hl 1 rfl) ?_
  have hPc := hP.sub (ws' := [(h0, .inr (0, [.ref hd, v_buffer, v_fetched, v_compared, v_maker, v_writer, .ref hp, .int i_madeDocuments, .int i_fetchedSteps])), (hd, .inl (cD, 8, .inr (.inr (.inr (.inr ((fD)))))))]) [0, 2] rfl
  have hKc := hK.sub (tys' := [(cD, .object R_D)]) [0] rfl
  refine ps_q (va_runV (As := [.int a1]) (rest := []) ⟨hx, hb, hml, hown, hw0⟩ (g_docAt_S l dC dI h0 v_buffer v_fetched v_compared v_maker v_writer (.ref hp) i_madeDocuments i_fetchedSteps hd cD (fD) a1 hdo (by first | assumption | decide | omega)) (cwV 1 hw0 (gd_V 317 318 319 226 320 rfl rfl rfl rfl rfl) rfl rfl rfl (by decide +kernel) ⟨by decide +kernel, by decide +kernel⟩) (prV_R hPc hKc hN (va_recv hKc hPc (ci := 0) (q0 := 0) rfl rfl)) rfl rfl hl.1 rfl (lv_room (Nat.le_of_ble_eq_true rfl)) d_K_revision_6 ⟨by decide +kernel, by decide +kernel⟩) (fun r_1 hr_1 => ?_)
  obtain rfl : r_1 = some hdo := hr_1
  refine W.eq (g2 := F0 m 9 ls [.ref hdo]) rfl ?_
  refine lv_astore (lv' := [(4, .ref hdo), (0, .ref h0), (1, .int a1), (2, .int a2), (3, .int 0)]) hx hb d_K_revision_9 hl (by decide) rfl (fun ls hl => ?_)
  refine lv_aload_n hx hb d_K_revision_11 rfl (lv_at hl 1 rfl) ?_
  refine lv_iload_n hx hb d_K_revision_12 rfl (lv_at hl 2 rfl) ?_
  refine lv_iload_n hx hb d_K_revision_13 rfl (lv_at hl 3 rfl) ?_
  have hPc := hP.sub (ws' := [(h0, .inr (0, [.ref hd, v_buffer, v_fetched, v_compared, v_maker, v_writer, .ref hp, .int i_madeDocuments, .int i_fetchedSteps])), (hd, .inl (cD, 8, .inr (.inr (.inr (.inr ((fD))))))), (hdo, .inr (5, [.ref hra, .int (nI df), .int (nI dn)])), (hra, .inl (cR, 64, .inr (.inr (.inr (.inr ((fr)))))))]) [0, 2, 3, 4] rfl
  have hKc := hK.sub (tys' := [(cD, .object R_D), (cR, .object R_V)]) [0, 1] rfl
  refine ps_q (va_runV (As := [.int a1, .int a2]) (rest := []) ⟨hx, hb, hml, hown, hw0⟩ (g_keptR_S l dC dI h0 v_buffer v_fetched v_compared v_maker v_writer (.ref hp) i_madeDocuments i_fetchedSteps hd cD (fD) _ hra cR df dn (fr) a1 a2 hv (by first | assumption | decide | omega) (by first | assumption | decide | omega) (by first | assumption | decide | omega)) (cwV 2 hw0 (gd_V 345 346 347 226 348 rfl rfl rfl rfl rfl) rfl rfl rfl (by decide +kernel) ⟨by decide +kernel, by decide +kernel⟩) (prV_R hPc hKc hN (va_recv hKc hPc (ci := 0) (q0 := 0) rfl rfl)) rfl rfl hl.1 rfl (lv_room (Nat.le_of_ble_eq_true rfl)) d_K_revision_14 ⟨by decide +kernel, by decide +kernel⟩) (fun r_2 hr_2 => ?_)
  obtain rfl : r_2 = some hv := hr_2
  refine W.eq (g2 := F0 m 17 ls [.ref hv]) rfl ?_
  refine lv_astore (lv' := [(5, .ref hv), (4, .ref hdo), (0, .ref h0), (1, .int a1), (2, .int a2), (3, .int 0)]) hx hb d_K_revision_17 hl (by decide) rfl (fun ls hl => ?_)
  refine lv_aload hx hb d_K_revision_19 (lv_at hl 1 rfl) ?_
  refine lv_ifnull hx hb d_K_revision_21 ?_
  refine lv_aload hx hb d_K_revision_24 (lv_at hl 1 rfl) ?_
  refine lv_iload_n hx hb d_K_revision_26 rfl (lv_at hl 4 rfl) ?_
  have hPc := hP.sub (ws' := [(hdo, .inr (5, [.ref hra, .int (nI df), .int (nI dn)])), (hra, .inl (cR, 64, .inr (.inr (.inr (.inr ((fr)))))))]) [3, 4] rfl
  have hKc := hK.sub (tys' := [(cR, .object R_V)]) [1] rfl
  refine ps_i (va_runV (As := [.int a2]) (rest := []) ⟨hx, hb, hml, hown, hw0⟩ (g_asked_F l dC dI hdo hra cR df dn (fr) a2 (by first | assumption | decide | omega)) (cwV 1 hw0 (gd_V 370 371 372 233 373 rfl rfl rfl rfl rfl) rfl rfl rfl (by decide +kernel) ⟨by decide +kernel, by decide +kernel⟩) (prV_R hPc hKc hN (va_recv hKc hPc (ci := 5) (q0 := 0) rfl rfl)) rfl rfl hl.1 rfl (lv_room (Nat.le_of_ble_eq_true rfl)) d_K_revision_27 ⟨by decide +kernel, by decide +kernel⟩) (fun r_3 hr_3 => ?_)
  obtain rfl : r_3 = 0 := hr_3
  refine lv_if_eq (tgt := 37) hx hb d_K_revision_30 (by decide) (fun _ => ?_) (fun h9 => absurd h9 (by decide +kernel))
  refine lv_iconst (v := 0) hx hb d_K_revision_37 (by decide) ?_
  refine lv_istore (lv' := [(6, .int 0), (5, .ref hv), (4, .ref hdo), (0, .ref h0), (1, .int a1), (2, .int a2), (3, .int 0)]) hx hb d_K_revision_38 hl (by decide) rfl (fun ls hl => ?_)
  refine lv_aload hx hb d_K_revision_40 (lv_at hl 1 rfl) ?_
  refine lv_ifnull hx hb d_K_revision_42 ?_
  refine lv_iload hx hb d_K_revision_45 (lv_at hl 0 rfl) ?_
  refine lv_if_ne (tgt := 67) hx hb d_K_revision_47 (by decide) (fun h9 => absurd h9 (by decide +kernel)) (fun _ => ?_)
  refine lv_iload_n hx hb d_K_revision_50 rfl (lv_at hl 6 rfl) ?_
  refine lv_if_eq (tgt := 67) hx hb d_K_revision_51 (by decide) (fun _ => ?_) (fun h9 => absurd h9 (by decide +kernel))
  refine lv_iload_n hx hb d_K_revision_67 rfl (lv_at hl 6 rfl) ?_
  refine lv_tableIn (tgt := 96) hx hb d_K_revision_68 (by decide +kernel) (by decide +kernel) rfl (by decide) ?_
  refine lv_aload hx hb d_K_revision_96 (lv_at hl 1 rfl) ?_
  refine va_getN (D := (dC, dI)) (ci := 6) (v := .ref hpi) (C := R_V) (T := F_V) (N := 3) hx hb hw0 in_V hown hK hP 5 rfl rfl 0 (by decide) (va_Nw.use rfl (hN.1 (.fieldLinkNest R_K 153 "TextKeeper$Revision" "piece" "[B" "TextKeeper") (List.mem_of_getElem? (i := 8) rfl))) (fun _ h9 => h9) rfl d_K_revision_98 ?_
  refine va_alen (v := nI np) hx hb hK hP 6 2 rfl rfl (rfl) d_K_revision_101 ?_
  exact W.iret (v := (nI np)) hx hb hr (fun t ht hW => ⟨(nI np), rfl, rfl, ht⟩) (fun q h => by cases h) d_K_revision_102
set_option maxHeartbeats 4000000 in
set_option maxRecDepth 100000 in
theorem g_rev_F2 (l : Launch) (dC : Nat → ClassId) (dI : Nat → Nat → Nat) (h0 : Nat) (v_buffer : Value) (v_fetched : Value) (v_compared : Value) (v_maker : Value) (v_writer : Value) (i_madeDocuments : Int32) (i_fetchedSteps : Int32) (hp : Nat) (p_i_going : Int32) (p_i_writesLeft : Int32) (hd : Nat) (cD : ClassId) (fD : Nat → Option Nat) (hdo : Nat) (hra : Nat) (cR : ClassId) (df : Nat) (dn : Nat) (fr : Nat → Option Nat) (hv : Nat) (hpi : Nat) (cB : ClassId) (np : Nat) (fp : Nat → Int32) (au : Int32) (sm : Int32) (a1 : Int32) (a2 : Int32) (hdS : atN 8 fD a1 = some hdo) (hdn : dn ≤ 64) (hna : a2 < nI df ∨ nI dn ≤ a2) (hkS : atN dn fr a2 = some hv) : Met l y_K_revision k_K_revision ({ frames := 2, cells := 0, slots := 0, locals := 44 } : Room) (va_Pc [.ref h0, .int a1, .int a2, .int 2] (pc_R (dC, dI) [(h0, .inr (0, [.ref hd, v_buffer, v_fetched, v_compared, v_maker, v_writer, .ref hp, .int i_madeDocuments, .int i_fetchedSteps])), (hp, .inr (4, [.int 0, .int p_i_going, .int p_i_writesLeft])), (hd, .inl (cD, 8, .inr (.inr (.inr (.inr (fD)))))), (hdo, .inr (5, [.ref hra, .int (nI df), .int (nI dn)])), (hra, .inl (cR, 64, .inr (.inr (.inr (.inr (fr)))))), (hv, .inr (6, [.ref hpi, .int au, .int sm])), (hpi, .inl (cB, np, .inl (fp)))] [(cD, .object R_D), (cR, .object R_V), (cB, .byte)])) (vp_Si (fun r => r = sm)) 0 0 (fun _ => False) := by
  refine Met.ofW (cc := prog_1_method_12_code) (maxL := 7) (ret := (some .int)) (by decide) rfl ?_
  intro p e s m args below meth c s₁ B hml hv
  obtain ⟨rfl, hP, hK, hN⟩ := hv
  have hx := B.exec
  have hb := B.bytes
  have hr := B.returns
  have hts := atoms_spec (ws := k_K_revision) B.pre
  have hw0 : ∀ w ∈ w0, w.before _ s = true := fun w h => hts w (List.mem_cons_of_mem _ h)
  have hown : s.vm.findClass R_K = some m.cls := findClass_of_methodNamed B.named
  have hlocks := B.notSynchronized
  have hP : va_P (dC, dI) vwCl [(h0, .inr (0, [.ref hd, v_buffer, v_fetched, v_compared, v_maker, v_writer, .ref hp, .int i_madeDocuments, .int i_fetchedSteps])), (hp, .inr (4, [.int 0, .int p_i_going, .int p_i_writesLeft])), (hd, .inl (cD, 8, .inr (.inr (.inr (.inr (fD)))))), (hdo, .inr (5, [.ref hra, .int (nI df), .int (nI dn)])), (hra, .inl (cR, 64, .inr (.inr (.inr (.inr (fr)))))), (hv, .inr (6, [.ref hpi, .int au, .int sm])), (hpi, .inl (cB, np, .inl (fp)))] s.heap := hP
  have hl := lv_entry ([.ref h0, .int a1, .int a2, .int 2]) (n := 7) (Nat.le_of_ble_eq_true rfl)
  rw [lg_entry_eq]
  generalize (lg_sl ([.ref h0, .int a1, .int a2, .int 2]) ++ List.replicate (7 - (lg_sl ([.ref h0, .int a1, .int a2, .int 2])).length) Slot.unset).toArray = ls at hl ⊢
  have hl : lv_has ls 7 [(0, .ref h0), (1, .int a1), (2, .int a2), (3, .int 2)] := hl
  refine lv_aload_n hx hb d_K_revision_0 rfl (lv_at hl 0 rfl) ?_
  have hPc := hP.sub (ws' := [(h0, .inr (0, [.ref hd, v_buffer, v_fetched, v_compared, v_maker, v_writer, .ref hp, .int i_madeDocuments, .int i_fetchedSteps])), (hp, .inr (4, [.int 0, .int p_i_going, .int p_i_writesLeft]))]) [0, 1] rfl
  have hKc := hK.sub (tys' := []) [] rfl
  refine ps_v (va_runV (As := []) (rest := []) ⟨hx, hb, hml, hown, hw0⟩ (g_needPower l dC dI h0 (.ref hd) v_buffer v_fetched v_compared v_maker v_writer i_madeDocuments i_fetchedSteps hp p_i_going p_i_writesLeft) (cwV 0 hw0 (gd_V 322 323 324 226 325 rfl rfl rfl rfl rfl) rfl rfl rfl (by decide +kernel) ⟨by decide +kernel, by decide +kernel⟩) (prV_R hPc hKc hN (va_recv hKc hPc (ci := 0) (q0 := 0) rfl rfl)) rfl rfl hl.1 rfl (lv_room (Nat.le_of_ble_eq_true rfl)) d_K_revision_1 ⟨by decide +kernel, by decide +kernel⟩) ?_
  refine lv_aload_n hx hb d_K_revision_4 rfl (lv_at hl 0 rfl) ?_
  refine lv_iload_n hx hb d_K_revision_5 rfl (lv_at hl 1 rfl) ?_
  have hPc := hP.sub (ws' := [(h0, .inr (0, [.ref hd, v_buffer, v_fetched, v_compared, v_maker, v_writer, .ref hp, .int i_madeDocuments, .int i_fetchedSteps])), (hd, .inl (cD, 8, .inr (.inr (.inr (.inr ((fD)))))))]) [0, 2] rfl
  have hKc := hK.sub (tys' := [(cD, .object R_D)]) [0] rfl
  refine ps_q (va_runV (As := [.int a1]) (rest := []) ⟨hx, hb, hml, hown, hw0⟩ (g_docAt_S l dC dI h0 v_buffer v_fetched v_compared v_maker v_writer (.ref hp) i_madeDocuments i_fetchedSteps hd cD (fD) a1 hdo (by first | assumption | decide | omega)) (cwV 1 hw0 (gd_V 317 318 319 226 320 rfl rfl rfl rfl rfl) rfl rfl rfl (by decide +kernel) ⟨by decide +kernel, by decide +kernel⟩) (prV_R hPc hKc hN (va_recv hKc hPc (ci := 0) (q0 := 0) rfl rfl)) rfl rfl hl.1 rfl (lv_room (Nat.le_of_ble_eq_true rfl)) d_K_revision_6 ⟨by decide +kernel, by decide +kernel⟩) (fun r_1 hr_1 => ?_)
  obtain rfl : r_1 = some hdo := hr_1
  refine W.eq (g2 := F0 m 9 ls [.ref hdo]) rfl ?_
  refine lv_astore (lv' := [(4, .ref hdo), (0, .ref h0), (1, .int a1), (2, .int a2), (3, .int 2)]) hx hb d_K_revision_9 hl (by decide) rfl (fun ls hl => ?_)
  refine lv_aload_n hx hb d_K_revision_11 rfl (lv_at hl 1 rfl) ?_
  refine lv_iload_n hx hb d_K_revision_12 rfl (lv_at hl 2 rfl) ?_
  refine lv_iload_n hx hb d_K_revision_13 rfl (lv_at hl 3 rfl) ?_
  have hPc := hP.sub (ws' := [(h0, .inr (0, [.ref hd, v_buffer, v_fetched, v_compared, v_maker, v_writer, .ref hp, .int i_madeDocuments, .int i_fetchedSteps])), (hd, .inl (cD, 8, .inr (.inr (.inr (.inr ((fD))))))), (hdo, .inr (5, [.ref hra, .int (nI df), .int (nI dn)])), (hra, .inl (cR, 64, .inr (.inr (.inr (.inr ((fr)))))))]) [0, 2, 3, 4] rfl
  have hKc := hK.sub (tys' := [(cD, .object R_D), (cR, .object R_V)]) [0, 1] rfl
  refine ps_q (va_runV (As := [.int a1, .int a2]) (rest := []) ⟨hx, hb, hml, hown, hw0⟩ (g_keptR_S l dC dI h0 v_buffer v_fetched v_compared v_maker v_writer (.ref hp) i_madeDocuments i_fetchedSteps hd cD (fD) _ hra cR df dn (fr) a1 a2 hv (by first | assumption | decide | omega) (by first | assumption | decide | omega) (by first | assumption | decide | omega)) (cwV 2 hw0 (gd_V 345 346 347 226 348 rfl rfl rfl rfl rfl) rfl rfl rfl (by decide +kernel) ⟨by decide +kernel, by decide +kernel⟩) (prV_R hPc hKc hN (va_recv hKc hPc (ci := 0) (q0 := 0) rfl rfl)) rfl rfl hl.1 rfl (lv_room (Nat.le_of_ble_eq_true rfl)) d_K_revision_14 ⟨by decide +kernel, by decide +kernel⟩) (fun r_2 hr_2 => ?_)
  obtain rfl : r_2 = some hv := hr_2
  refine W.eq (g2 := F0 m 17 ls [.ref hv]) rfl ?_
  refine lv_astore (lv' := [(5, .ref hv), (4, .ref hdo), (0, .ref h0), (1, .int a1), (2, .int a2), (3, .int 2)]) hx hb d_K_revision_17 hl (by decide) rfl (fun ls hl => ?_)
  refine lv_aload hx hb d_K_revision_19 (lv_at hl 1 rfl) ?_
  refine lv_ifnull hx hb d_K_revision_21 ?_
  refine lv_aload hx hb d_K_revision_24 (lv_at hl 1 rfl) ?_
  refine lv_iload_n hx hb d_K_revision_26 rfl (lv_at hl 4 rfl) ?_
  have hPc := hP.sub (ws' := [(hdo, .inr (5, [.ref hra, .int (nI df), .int (nI dn)])), (hra, .inl (cR, 64, .inr (.inr (.inr (.inr ((fr)))))))]) [3, 4] rfl
  have hKc := hK.sub (tys' := [(cR, .object R_V)]) [1] rfl
  refine ps_i (va_runV (As := [.int a2]) (rest := []) ⟨hx, hb, hml, hown, hw0⟩ (g_asked_F l dC dI hdo hra cR df dn (fr) a2 (by first | assumption | decide | omega)) (cwV 1 hw0 (gd_V 370 371 372 233 373 rfl rfl rfl rfl rfl) rfl rfl rfl (by decide +kernel) ⟨by decide +kernel, by decide +kernel⟩) (prV_R hPc hKc hN (va_recv hKc hPc (ci := 5) (q0 := 0) rfl rfl)) rfl rfl hl.1 rfl (lv_room (Nat.le_of_ble_eq_true rfl)) d_K_revision_27 ⟨by decide +kernel, by decide +kernel⟩) (fun r_3 hr_3 => ?_)
  obtain rfl : r_3 = 0 := hr_3
  refine lv_if_eq (tgt := 37) hx hb d_K_revision_30 (by decide) (fun _ => ?_) (fun h9 => absurd h9 (by decide +kernel))
  refine lv_iconst (v := 0) hx hb d_K_revision_37 (by decide) ?_
  refine lv_istore (lv' := [(6, .int 0), (5, .ref hv), (4, .ref hdo), (0, .ref h0), (1, .int a1), (2, .int a2), (3, .int 2)]) hx hb d_K_revision_38 hl (by decide) rfl (fun ls hl => ?_)
  refine lv_aload hx hb d_K_revision_40 (lv_at hl 1 rfl) ?_
  refine lv_ifnull hx hb d_K_revision_42 ?_
  refine lv_iload hx hb d_K_revision_45 (lv_at hl 0 rfl) ?_
  refine lv_if_ne (tgt := 67) hx hb d_K_revision_47 (by decide) (fun h9 => absurd h9 (by decide +kernel)) (fun _ => ?_)
  refine lv_iload_n hx hb d_K_revision_50 rfl (lv_at hl 6 rfl) ?_
  refine lv_if_eq (tgt := 67) hx hb d_K_revision_51 (by decide) (fun h9 => absurd h9 (by decide +kernel)) (fun _ => ?_)
  refine lv_iload_n hx hb d_K_revision_54 rfl (lv_at hl 6 rfl) ?_
  refine lv_iconst (v := 2) hx hb d_K_revision_55 (by decide) ?_
  refine lv_icmp_eq (tgt := 67) hx hb d_K_revision_56 (by decide) (fun _ => ?_) (fun h9 => absurd h9 (by decide +kernel))
  refine lv_iload_n hx hb d_K_revision_67 rfl (lv_at hl 6 rfl) ?_
  refine lv_tableIn (tgt := 109) hx hb d_K_revision_68 (by decide +kernel) (by decide +kernel) rfl (by decide) ?_
  refine lv_aload hx hb d_K_revision_109 (lv_at hl 1 rfl) ?_
  refine va_getN (D := (dC, dI)) (ci := 6) (v := .int sm) (C := R_V) (T := F_V) (N := 3) hx hb hw0 in_V hown hK hP 5 rfl rfl 2 (by decide) (va_Nw.use rfl (hN.1 (.fieldLinkNest R_K 160 "TextKeeper$Revision" "sum" "I" "TextKeeper") (List.mem_of_getElem? (i := 19) rfl))) (fun _ h9 => h9) rfl d_K_revision_111 ?_
  exact W.iret (v := sm) hx hb hr (fun t ht hW => ⟨sm, rfl, rfl, ht⟩) (fun q h => by cases h) d_K_revision_114
set_option maxHeartbeats 4000000 in
set_option maxRecDepth 100000 in
theorem g_rev_A0 (l : Launch) (dC : Nat → ClassId) (dI : Nat → Nat → Nat) (h0 : Nat) (v_buffer : Value) (v_fetched : Value) (v_compared : Value) (v_maker : Value) (v_writer : Value) (i_madeDocuments : Int32) (i_fetchedSteps : Int32) (hp : Nat) (p_i_going : Int32) (p_i_writesLeft : Int32) (hd : Nat) (cD : ClassId) (fD : Nat → Option Nat) (hdo : Nat) (hra : Nat) (cR : ClassId) (df : Nat) (dn : Nat) (fr : Nat → Option Nat) (hv : Nat) (hpi : Nat) (cB : ClassId) (np : Nat) (fp : Nat → Int32) (au : Int32) (sm : Int32) (a1 : Int32) (r9 : Nat) (hdS : atN 8 fD a1 = some hdo) (hdn : dn ≤ 64) (hkS : atN dn fr (nI r9) = some hv) (ha1 : df ≤ r9) (ha2 : r9 < dn) : Met l y_K_revision k_K_revision ({ frames := 2, cells := 0, slots := 0, locals := 44 } : Room) (va_Pc [.ref h0, .int a1, .int (nI r9), .int 0] (pc_R (dC, dI) [(h0, .inr (0, [.ref hd, v_buffer, v_fetched, v_compared, v_maker, v_writer, .ref hp, .int i_madeDocuments, .int i_fetchedSteps])), (hp, .inr (4, [.int 0, .int p_i_going, .int p_i_writesLeft])), (hd, .inl (cD, 8, .inr (.inr (.inr (.inr (fD)))))), (hdo, .inr (5, [.ref hra, .int (nI df), .int (nI dn)])), (hra, .inl (cR, 64, .inr (.inr (.inr (.inr (fr)))))), (hv, .inr (6, [.ref hpi, .int au, .int sm])), (hpi, .inl (cB, np, .inl (fp)))] [(cD, .object R_D), (cR, .object R_V), (cB, .byte)])) (vp_Si (fun r => r = nI np)) 0 0 (fun _ => False) := by
  refine Met.ofW (cc := prog_1_method_12_code) (maxL := 7) (ret := (some .int)) (by decide) rfl ?_
  intro p e s m args below meth c s₁ B hml hv
  obtain ⟨rfl, hP, hK, hN⟩ := hv
  have hx := B.exec
  have hb := B.bytes
  have hr := B.returns
  have hts := atoms_spec (ws := k_K_revision) B.pre
  have hw0 : ∀ w ∈ w0, w.before _ s = true := fun w h => hts w (List.mem_cons_of_mem _ h)
  have hown : s.vm.findClass R_K = some m.cls := findClass_of_methodNamed B.named
  have hlocks := B.notSynchronized
  have hP : va_P (dC, dI) vwCl [(h0, .inr (0, [.ref hd, v_buffer, v_fetched, v_compared, v_maker, v_writer, .ref hp, .int i_madeDocuments, .int i_fetchedSteps])), (hp, .inr (4, [.int 0, .int p_i_going, .int p_i_writesLeft])), (hd, .inl (cD, 8, .inr (.inr (.inr (.inr (fD)))))), (hdo, .inr (5, [.ref hra, .int (nI df), .int (nI dn)])), (hra, .inl (cR, 64, .inr (.inr (.inr (.inr (fr)))))), (hv, .inr (6, [.ref hpi, .int au, .int sm])), (hpi, .inl (cB, np, .inl (fp)))] s.heap := hP
  have hl := lv_entry ([.ref h0, .int a1, .int (nI r9), .int 0]) (n := 7) (Nat.le_of_ble_eq_true rfl)
  rw [lg_entry_eq]
  generalize (lg_sl ([.ref h0, .int a1, .int (nI r9), .int 0]) ++ List.replicate (7 - (lg_sl ([.ref h0, .int a1, .int (nI r9), .int 0])).length) Slot.unset).toArray = ls at hl ⊢
  have hl : lv_has ls 7 [(0, .ref h0), (1, .int a1), (2, .int (nI r9)), (3, .int 0)] := hl
  refine lv_aload_n hx hb d_K_revision_0 rfl (lv_at hl 0 rfl) ?_
  have hPc := hP.sub (ws' := [(h0, .inr (0, [.ref hd, v_buffer, v_fetched, v_compared, v_maker, v_writer, .ref hp, .int i_madeDocuments, .int i_fetchedSteps])), (hp, .inr (4, [.int 0, .int p_i_going, .int p_i_writesLeft]))]) [0, 1] rfl
  have hKc := hK.sub (tys' := []) [] rfl
  refine ps_v (va_runV (As := []) (rest := []) ⟨hx, hb, hml, hown, hw0⟩ (g_needPower l dC dI h0 (.ref hd) v_buffer v_fetched v_compared v_maker v_writer i_madeDocuments i_fetchedSteps hp p_i_going p_i_writesLeft) (cwV 0 hw0 (gd_V 322 323 324 226 325 rfl rfl rfl rfl rfl) rfl rfl rfl (by decide +kernel) ⟨by decide +kernel, by decide +kernel⟩) (prV_R hPc hKc hN (va_recv hKc hPc (ci := 0) (q0 := 0) rfl rfl)) rfl rfl hl.1 rfl (lv_room (Nat.le_of_ble_eq_true rfl)) d_K_revision_1 ⟨by decide +kernel, by decide +kernel⟩) ?_
  refine lv_aload_n hx hb d_K_revision_4 rfl (lv_at hl 0 rfl) ?_
  refine lv_iload_n hx hb d_K_revision_5 rfl (lv_at hl 1 rfl) ?_
  have hPc := hP.sub (ws' := [(h0, .inr (0, [.ref hd, v_buffer, v_fetched, v_compared, v_maker, v_writer, .ref hp, .int i_madeDocuments, .int i_fetchedSteps])), (hd, .inl (cD, 8, .inr (.inr (.inr (.inr ((fD)))))))]) [0, 2] rfl
  have hKc := hK.sub (tys' := [(cD, .object R_D)]) [0] rfl
  refine ps_q (va_runV (As := [.int a1]) (rest := []) ⟨hx, hb, hml, hown, hw0⟩ (g_docAt_S l dC dI h0 v_buffer v_fetched v_compared v_maker v_writer (.ref hp) i_madeDocuments i_fetchedSteps hd cD (fD) a1 hdo (by first | assumption | decide | omega)) (cwV 1 hw0 (gd_V 317 318 319 226 320 rfl rfl rfl rfl rfl) rfl rfl rfl (by decide +kernel) ⟨by decide +kernel, by decide +kernel⟩) (prV_R hPc hKc hN (va_recv hKc hPc (ci := 0) (q0 := 0) rfl rfl)) rfl rfl hl.1 rfl (lv_room (Nat.le_of_ble_eq_true rfl)) d_K_revision_6 ⟨by decide +kernel, by decide +kernel⟩) (fun r_1 hr_1 => ?_)
  obtain rfl : r_1 = some hdo := hr_1
  refine W.eq (g2 := F0 m 9 ls [.ref hdo]) rfl ?_
  refine lv_astore (lv' := [(4, .ref hdo), (0, .ref h0), (1, .int a1), (2, .int (nI r9)), (3, .int 0)]) hx hb d_K_revision_9 hl (by decide) rfl (fun ls hl => ?_)
  refine lv_aload_n hx hb d_K_revision_11 rfl (lv_at hl 1 rfl) ?_
  refine lv_iload_n hx hb d_K_revision_12 rfl (lv_at hl 2 rfl) ?_
  refine lv_iload_n hx hb d_K_revision_13 rfl (lv_at hl 3 rfl) ?_
  have hPc := hP.sub (ws' := [(h0, .inr (0, [.ref hd, v_buffer, v_fetched, v_compared, v_maker, v_writer, .ref hp, .int i_madeDocuments, .int i_fetchedSteps])), (hd, .inl (cD, 8, .inr (.inr (.inr (.inr ((fD))))))), (hdo, .inr (5, [.ref hra, .int (nI df), .int (nI dn)])), (hra, .inl (cR, 64, .inr (.inr (.inr (.inr ((fr)))))))]) [0, 2, 3, 4] rfl
  have hKc := hK.sub (tys' := [(cD, .object R_D), (cR, .object R_V)]) [0, 1] rfl
  refine ps_q (va_runV (As := [.int a1, .int (nI r9)]) (rest := []) ⟨hx, hb, hml, hown, hw0⟩ (g_keptR_S l dC dI h0 v_buffer v_fetched v_compared v_maker v_writer (.ref hp) i_madeDocuments i_fetchedSteps hd cD (fD) _ hra cR df dn (fr) a1 (nI r9) hv (by first | assumption | decide | omega) (by first | assumption | decide | omega) (by first | assumption | decide | omega)) (cwV 2 hw0 (gd_V 345 346 347 226 348 rfl rfl rfl rfl rfl) rfl rfl rfl (by decide +kernel) ⟨by decide +kernel, by decide +kernel⟩) (prV_R hPc hKc hN (va_recv hKc hPc (ci := 0) (q0 := 0) rfl rfl)) rfl rfl hl.1 rfl (lv_room (Nat.le_of_ble_eq_true rfl)) d_K_revision_14 ⟨by decide +kernel, by decide +kernel⟩) (fun r_2 hr_2 => ?_)
  obtain rfl : r_2 = some hv := hr_2
  refine W.eq (g2 := F0 m 17 ls [.ref hv]) rfl ?_
  refine lv_astore (lv' := [(5, .ref hv), (4, .ref hdo), (0, .ref h0), (1, .int a1), (2, .int (nI r9)), (3, .int 0)]) hx hb d_K_revision_17 hl (by decide) rfl (fun ls hl => ?_)
  refine lv_aload hx hb d_K_revision_19 (lv_at hl 1 rfl) ?_
  refine lv_ifnull hx hb d_K_revision_21 ?_
  refine lv_aload hx hb d_K_revision_24 (lv_at hl 1 rfl) ?_
  refine lv_iload_n hx hb d_K_revision_26 rfl (lv_at hl 4 rfl) ?_
  have hPc := hP.sub (ws' := [(hdo, .inr (5, [.ref hra, .int (nI df), .int (nI dn)])), (hra, .inl (cR, 64, .inr (.inr (.inr (.inr ((fr)))))))]) [3, 4] rfl
  have hKc := hK.sub (tys' := [(cR, .object R_V)]) [1] rfl
  refine ps_i (va_runV (As := [.int (nI r9)]) (rest := []) ⟨hx, hb, hml, hown, hw0⟩ (g_asked_T l dC dI hdo hra cR df dn (fr) r9 (by first | assumption | decide | omega) (by first | assumption | decide | omega) (by first | assumption | decide | omega)) (cwV 1 hw0 (gd_V 370 371 372 233 373 rfl rfl rfl rfl rfl) rfl rfl rfl (by decide +kernel) ⟨by decide +kernel, by decide +kernel⟩) (prV_R hPc hKc hN (va_recv hKc hPc (ci := 5) (q0 := 0) rfl rfl)) rfl rfl hl.1 rfl (lv_room (Nat.le_of_ble_eq_true rfl)) d_K_revision_27 ⟨by decide +kernel, by decide +kernel⟩) (fun r_3 hr_3 => ?_)
  obtain rfl : r_3 = 1 := hr_3
  refine lv_if_eq (tgt := 37) hx hb d_K_revision_30 (by decide) (fun h9 => absurd h9 (by decide +kernel)) (fun _ => ?_)
  refine lv_iconst (v := 1) hx hb d_K_revision_33 (by decide) ?_
  refine lv_goto (tgt := 38) hx hb d_K_revision_34 (by decide) ?_
  refine lv_istore (lv' := [(6, .int 1), (5, .ref hv), (4, .ref hdo), (0, .ref h0), (1, .int a1), (2, .int (nI r9)), (3, .int 0)]) hx hb d_K_revision_38 hl (by decide) rfl (fun ls hl => ?_)
  refine lv_aload hx hb d_K_revision_40 (lv_at hl 1 rfl) ?_
  refine lv_ifnull hx hb d_K_revision_42 ?_
  refine lv_iload hx hb d_K_revision_45 (lv_at hl 0 rfl) ?_
  refine lv_if_ne (tgt := 67) hx hb d_K_revision_47 (by decide) (fun _ => ?_) (fun h9 => absurd h9 (by decide +kernel))
  refine lv_iload_n hx hb d_K_revision_67 rfl (lv_at hl 6 rfl) ?_
  refine lv_tableIn (tgt := 96) hx hb d_K_revision_68 (by decide +kernel) (by decide +kernel) rfl (by decide) ?_
  refine lv_aload hx hb d_K_revision_96 (lv_at hl 1 rfl) ?_
  refine va_getN (D := (dC, dI)) (ci := 6) (v := .ref hpi) (C := R_V) (T := F_V) (N := 3) hx hb hw0 in_V hown hK hP 5 rfl rfl 0 (by decide) (va_Nw.use rfl (hN.1 (.fieldLinkNest R_K 153 "TextKeeper$Revision" "piece" "[B" "TextKeeper") (List.mem_of_getElem? (i := 8) rfl))) (fun _ h9 => h9) rfl d_K_revision_98 ?_
  refine va_alen (v := nI np) hx hb hK hP 6 2 rfl rfl (rfl) d_K_revision_101 ?_
  exact W.iret (v := (nI np)) hx hb hr (fun t ht hW => ⟨(nI np), rfl, rfl, ht⟩) (fun q h => by cases h) d_K_revision_102
set_option maxHeartbeats 4000000 in
set_option maxRecDepth 100000 in
theorem g_rev_A1 (l : Launch) (dC : Nat → ClassId) (dI : Nat → Nat → Nat) (h0 : Nat) (v_buffer : Value) (v_fetched : Value) (v_compared : Value) (v_maker : Value) (v_writer : Value) (i_madeDocuments : Int32) (i_fetchedSteps : Int32) (hp : Nat) (p_i_going : Int32) (p_i_writesLeft : Int32) (hd : Nat) (cD : ClassId) (fD : Nat → Option Nat) (hdo : Nat) (hra : Nat) (cR : ClassId) (df : Nat) (dn : Nat) (fr : Nat → Option Nat) (hv : Nat) (hpi : Nat) (cB : ClassId) (np : Nat) (fp : Nat → Int32) (au : Int32) (sm : Int32) (a1 : Int32) (r9 : Nat) (hdS : atN 8 fD a1 = some hdo) (hdn : dn ≤ 64) (hkS : atN dn fr (nI r9) = some hv) (ha1 : df ≤ r9) (ha2 : r9 < dn) : Met l y_K_revision k_K_revision ({ frames := 2, cells := 0, slots := 0, locals := 44 } : Room) (va_Pc [.ref h0, .int a1, .int (nI r9), .int 1] (pc_R (dC, dI) [(h0, .inr (0, [.ref hd, v_buffer, v_fetched, v_compared, v_maker, v_writer, .ref hp, .int i_madeDocuments, .int i_fetchedSteps])), (hp, .inr (4, [.int 0, .int p_i_going, .int p_i_writesLeft])), (hd, .inl (cD, 8, .inr (.inr (.inr (.inr (fD)))))), (hdo, .inr (5, [.ref hra, .int (nI df), .int (nI dn)])), (hra, .inl (cR, 64, .inr (.inr (.inr (.inr (fr)))))), (hv, .inr (6, [.ref hpi, .int au, .int sm])), (hpi, .inl (cB, np, .inl (fp)))] [(cD, .object R_D), (cR, .object R_V), (cB, .byte)])) (vp_Si (fun r => r = au)) 0 0 (fun _ => False) := by
  refine Met.ofW (cc := prog_1_method_12_code) (maxL := 7) (ret := (some .int)) (by decide) rfl ?_
  intro p e s m args below meth c s₁ B hml hv
  obtain ⟨rfl, hP, hK, hN⟩ := hv
  have hx := B.exec
  have hb := B.bytes
  have hr := B.returns
  have hts := atoms_spec (ws := k_K_revision) B.pre
  have hw0 : ∀ w ∈ w0, w.before _ s = true := fun w h => hts w (List.mem_cons_of_mem _ h)
  have hown : s.vm.findClass R_K = some m.cls := findClass_of_methodNamed B.named
  have hlocks := B.notSynchronized
  have hP : va_P (dC, dI) vwCl [(h0, .inr (0, [.ref hd, v_buffer, v_fetched, v_compared, v_maker, v_writer, .ref hp, .int i_madeDocuments, .int i_fetchedSteps])), (hp, .inr (4, [.int 0, .int p_i_going, .int p_i_writesLeft])), (hd, .inl (cD, 8, .inr (.inr (.inr (.inr (fD)))))), (hdo, .inr (5, [.ref hra, .int (nI df), .int (nI dn)])), (hra, .inl (cR, 64, .inr (.inr (.inr (.inr (fr)))))), (hv, .inr (6, [.ref hpi, .int au, .int sm])), (hpi, .inl (cB, np, .inl (fp)))] s.heap := hP
  have hl := lv_entry ([.ref h0, .int a1, .int (nI r9), .int 1]) (n := 7) (Nat.le_of_ble_eq_true rfl)
  rw [lg_entry_eq]
  generalize (lg_sl ([.ref h0, .int a1, .int (nI r9), .int 1]) ++ List.replicate (7 - (lg_sl ([.ref h0, .int a1, .int (nI r9), .int 1])).length) Slot.unset).toArray = ls at hl ⊢
  have hl : lv_has ls 7 [(0, .ref h0), (1, .int a1), (2, .int (nI r9)), (3, .int 1)] := hl
  refine lv_aload_n hx hb d_K_revision_0 rfl (lv_at hl 0 rfl) ?_
  have hPc := hP.sub (ws' := [(h0, .inr (0, [.ref hd, v_buffer, v_fetched, v_compared, v_maker, v_writer, .ref hp, .int i_madeDocuments, .int i_fetchedSteps])), (hp, .inr (4, [.int 0, .int p_i_going, .int p_i_writesLeft]))]) [0, 1] rfl
  have hKc := hK.sub (tys' := []) [] rfl
  refine ps_v (va_runV (As := []) (rest := []) ⟨hx, hb, hml, hown, hw0⟩ (g_needPower l dC dI h0 (.ref hd) v_buffer v_fetched v_compared v_maker v_writer i_madeDocuments i_fetchedSteps hp p_i_going p_i_writesLeft) (cwV 0 hw0 (gd_V 322 323 324 226 325 rfl rfl rfl rfl rfl) rfl rfl rfl (by decide +kernel) ⟨by decide +kernel, by decide +kernel⟩) (prV_R hPc hKc hN (va_recv hKc hPc (ci := 0) (q0 := 0) rfl rfl)) rfl rfl hl.1 rfl (lv_room (Nat.le_of_ble_eq_true rfl)) d_K_revision_1 ⟨by decide +kernel, by decide +kernel⟩) ?_
  refine lv_aload_n hx hb d_K_revision_4 rfl (lv_at hl 0 rfl) ?_
  refine lv_iload_n hx hb d_K_revision_5 rfl (lv_at hl 1 rfl) ?_
  have hPc := hP.sub (ws' := [(h0, .inr (0, [.ref hd, v_buffer, v_fetched, v_compared, v_maker, v_writer, .ref hp, .int i_madeDocuments, .int i_fetchedSteps])), (hd, .inl (cD, 8, .inr (.inr (.inr (.inr ((fD)))))))]) [0, 2] rfl
  have hKc := hK.sub (tys' := [(cD, .object R_D)]) [0] rfl
  refine ps_q (va_runV (As := [.int a1]) (rest := []) ⟨hx, hb, hml, hown, hw0⟩ (g_docAt_S l dC dI h0 v_buffer v_fetched v_compared v_maker v_writer (.ref hp) i_madeDocuments i_fetchedSteps hd cD (fD) a1 hdo (by first | assumption | decide | omega)) (cwV 1 hw0 (gd_V 317 318 319 226 320 rfl rfl rfl rfl rfl) rfl rfl rfl (by decide +kernel) ⟨by decide +kernel, by decide +kernel⟩) (prV_R hPc hKc hN (va_recv hKc hPc (ci := 0) (q0 := 0) rfl rfl)) rfl rfl hl.1 rfl (lv_room (Nat.le_of_ble_eq_true rfl)) d_K_revision_6 ⟨by decide +kernel, by decide +kernel⟩) (fun r_1 hr_1 => ?_)
  obtain rfl : r_1 = some hdo := hr_1
  refine W.eq (g2 := F0 m 9 ls [.ref hdo]) rfl ?_
  refine lv_astore (lv' := [(4, .ref hdo), (0, .ref h0), (1, .int a1), (2, .int (nI r9)), (3, .int 1)]) hx hb d_K_revision_9 hl (by decide) rfl (fun ls hl => ?_)
  refine lv_aload_n hx hb d_K_revision_11 rfl (lv_at hl 1 rfl) ?_
  refine lv_iload_n hx hb d_K_revision_12 rfl (lv_at hl 2 rfl) ?_
  refine lv_iload_n hx hb d_K_revision_13 rfl (lv_at hl 3 rfl) ?_
  have hPc := hP.sub (ws' := [(h0, .inr (0, [.ref hd, v_buffer, v_fetched, v_compared, v_maker, v_writer, .ref hp, .int i_madeDocuments, .int i_fetchedSteps])), (hd, .inl (cD, 8, .inr (.inr (.inr (.inr ((fD))))))), (hdo, .inr (5, [.ref hra, .int (nI df), .int (nI dn)])), (hra, .inl (cR, 64, .inr (.inr (.inr (.inr ((fr)))))))]) [0, 2, 3, 4] rfl
  have hKc := hK.sub (tys' := [(cD, .object R_D), (cR, .object R_V)]) [0, 1] rfl
  refine ps_q (va_runV (As := [.int a1, .int (nI r9)]) (rest := []) ⟨hx, hb, hml, hown, hw0⟩ (g_keptR_S l dC dI h0 v_buffer v_fetched v_compared v_maker v_writer (.ref hp) i_madeDocuments i_fetchedSteps hd cD (fD) _ hra cR df dn (fr) a1 (nI r9) hv (by first | assumption | decide | omega) (by first | assumption | decide | omega) (by first | assumption | decide | omega)) (cwV 2 hw0 (gd_V 345 346 347 226 348 rfl rfl rfl rfl rfl) rfl rfl rfl (by decide +kernel) ⟨by decide +kernel, by decide +kernel⟩) (prV_R hPc hKc hN (va_recv hKc hPc (ci := 0) (q0 := 0) rfl rfl)) rfl rfl hl.1 rfl (lv_room (Nat.le_of_ble_eq_true rfl)) d_K_revision_14 ⟨by decide +kernel, by decide +kernel⟩) (fun r_2 hr_2 => ?_)
  obtain rfl : r_2 = some hv := hr_2
  refine W.eq (g2 := F0 m 17 ls [.ref hv]) rfl ?_
  refine lv_astore (lv' := [(5, .ref hv), (4, .ref hdo), (0, .ref h0), (1, .int a1), (2, .int (nI r9)), (3, .int 1)]) hx hb d_K_revision_17 hl (by decide) rfl (fun ls hl => ?_)
  refine lv_aload hx hb d_K_revision_19 (lv_at hl 1 rfl) ?_
  refine lv_ifnull hx hb d_K_revision_21 ?_
  refine lv_aload hx hb d_K_revision_24 (lv_at hl 1 rfl) ?_
  refine lv_iload_n hx hb d_K_revision_26 rfl (lv_at hl 4 rfl) ?_
  have hPc := hP.sub (ws' := [(hdo, .inr (5, [.ref hra, .int (nI df), .int (nI dn)])), (hra, .inl (cR, 64, .inr (.inr (.inr (.inr ((fr)))))))]) [3, 4] rfl
  have hKc := hK.sub (tys' := [(cR, .object R_V)]) [1] rfl
  refine ps_i (va_runV (As := [.int (nI r9)]) (rest := []) ⟨hx, hb, hml, hown, hw0⟩ (g_asked_T l dC dI hdo hra cR df dn (fr) r9 (by first | assumption | decide | omega) (by first | assumption | decide | omega) (by first | assumption | decide | omega)) (cwV 1 hw0 (gd_V 370 371 372 233 373 rfl rfl rfl rfl rfl) rfl rfl rfl (by decide +kernel) ⟨by decide +kernel, by decide +kernel⟩) (prV_R hPc hKc hN (va_recv hKc hPc (ci := 5) (q0 := 0) rfl rfl)) rfl rfl hl.1 rfl (lv_room (Nat.le_of_ble_eq_true rfl)) d_K_revision_27 ⟨by decide +kernel, by decide +kernel⟩) (fun r_3 hr_3 => ?_)
  obtain rfl : r_3 = 1 := hr_3
  refine lv_if_eq (tgt := 37) hx hb d_K_revision_30 (by decide) (fun h9 => absurd h9 (by decide +kernel)) (fun _ => ?_)
  refine lv_iconst (v := 1) hx hb d_K_revision_33 (by decide) ?_
  refine lv_goto (tgt := 38) hx hb d_K_revision_34 (by decide) ?_
  refine lv_istore (lv' := [(6, .int 1), (5, .ref hv), (4, .ref hdo), (0, .ref h0), (1, .int a1), (2, .int (nI r9)), (3, .int 1)]) hx hb d_K_revision_38 hl (by decide) rfl (fun ls hl => ?_)
  refine lv_aload hx hb d_K_revision_40 (lv_at hl 1 rfl) ?_
  refine lv_ifnull hx hb d_K_revision_42 ?_
  refine lv_iload hx hb d_K_revision_45 (lv_at hl 0 rfl) ?_
  refine lv_if_ne (tgt := 67) hx hb d_K_revision_47 (by decide) (fun _ => ?_) (fun h9 => absurd h9 (by decide +kernel))
  refine lv_iload_n hx hb d_K_revision_67 rfl (lv_at hl 6 rfl) ?_
  refine lv_tableIn (tgt := 103) hx hb d_K_revision_68 (by decide +kernel) (by decide +kernel) rfl (by decide) ?_
  refine lv_aload hx hb d_K_revision_103 (lv_at hl 1 rfl) ?_
  refine va_getN (D := (dC, dI)) (ci := 6) (v := .int au) (C := R_V) (T := F_V) (N := 3) hx hb hw0 in_V hown hK hP 5 rfl rfl 1 (by decide) (va_Nw.use rfl (hN.1 (.fieldLinkNest R_K 157 "TextKeeper$Revision" "author" "I" "TextKeeper") (List.mem_of_getElem? (i := 18) rfl))) (fun _ h9 => h9) rfl d_K_revision_105 ?_
  exact W.iret (v := au) hx hb hr (fun t ht hW => ⟨au, rfl, rfl, ht⟩) (fun q h => by cases h) d_K_revision_108
set_option maxHeartbeats 4000000 in
set_option maxRecDepth 100000 in
theorem g_rev_A2 (l : Launch) (dC : Nat → ClassId) (dI : Nat → Nat → Nat) (h0 : Nat) (v_buffer : Value) (v_fetched : Value) (v_compared : Value) (v_maker : Value) (v_writer : Value) (i_madeDocuments : Int32) (i_fetchedSteps : Int32) (hp : Nat) (p_i_going : Int32) (p_i_writesLeft : Int32) (hd : Nat) (cD : ClassId) (fD : Nat → Option Nat) (hdo : Nat) (hra : Nat) (cR : ClassId) (df : Nat) (dn : Nat) (fr : Nat → Option Nat) (hv : Nat) (hpi : Nat) (cB : ClassId) (np : Nat) (fp : Nat → Int32) (au : Int32) (sm : Int32) (a1 : Int32) (r9 : Nat) (hdS : atN 8 fD a1 = some hdo) (hdn : dn ≤ 64) (hkS : atN dn fr (nI r9) = some hv) (ha1 : df ≤ r9) (ha2 : r9 < dn) : Met l y_K_revision k_K_revision ({ frames := 2, cells := 0, slots := 0, locals := 44 } : Room) (va_Pc [.ref h0, .int a1, .int (nI r9), .int 2] (pc_R (dC, dI) [(h0, .inr (0, [.ref hd, v_buffer, v_fetched, v_compared, v_maker, v_writer, .ref hp, .int i_madeDocuments, .int i_fetchedSteps])), (hp, .inr (4, [.int 0, .int p_i_going, .int p_i_writesLeft])), (hd, .inl (cD, 8, .inr (.inr (.inr (.inr (fD)))))), (hdo, .inr (5, [.ref hra, .int (nI df), .int (nI dn)])), (hra, .inl (cR, 64, .inr (.inr (.inr (.inr (fr)))))), (hv, .inr (6, [.ref hpi, .int au, .int sm])), (hpi, .inl (cB, np, .inl (fp)))] [(cD, .object R_D), (cR, .object R_V), (cB, .byte)])) (vp_Si (fun r => r = sm)) 0 0 (fun _ => False) := by
  refine Met.ofW (cc := prog_1_method_12_code) (maxL := 7) (ret := (some .int)) (by decide) rfl ?_
  intro p e s m args below meth c s₁ B hml hv
  obtain ⟨rfl, hP, hK, hN⟩ := hv
  have hx := B.exec
  have hb := B.bytes
  have hr := B.returns
  have hts := atoms_spec (ws := k_K_revision) B.pre
  have hw0 : ∀ w ∈ w0, w.before _ s = true := fun w h => hts w (List.mem_cons_of_mem _ h)
  have hown : s.vm.findClass R_K = some m.cls := findClass_of_methodNamed B.named
  have hlocks := B.notSynchronized
  have hP : va_P (dC, dI) vwCl [(h0, .inr (0, [.ref hd, v_buffer, v_fetched, v_compared, v_maker, v_writer, .ref hp, .int i_madeDocuments, .int i_fetchedSteps])), (hp, .inr (4, [.int 0, .int p_i_going, .int p_i_writesLeft])), (hd, .inl (cD, 8, .inr (.inr (.inr (.inr (fD)))))), (hdo, .inr (5, [.ref hra, .int (nI df), .int (nI dn)])), (hra, .inl (cR, 64, .inr (.inr (.inr (.inr (fr)))))), (hv, .inr (6, [.ref hpi, .int au, .int sm])), (hpi, .inl (cB, np, .inl (fp)))] s.heap := hP
  have hl := lv_entry ([.ref h0, .int a1, .int (nI r9), .int 2]) (n := 7) (Nat.le_of_ble_eq_true rfl)
  rw [lg_entry_eq]
  generalize (lg_sl ([.ref h0, .int a1, .int (nI r9), .int 2]) ++ List.replicate (7 - (lg_sl ([.ref h0, .int a1, .int (nI r9), .int 2])).length) Slot.unset).toArray = ls at hl ⊢
  have hl : lv_has ls 7 [(0, .ref h0), (1, .int a1), (2, .int (nI r9)), (3, .int 2)] := hl
  refine lv_aload_n hx hb d_K_revision_0 rfl (lv_at hl 0 rfl) ?_
  have hPc := hP.sub (ws' := [(h0, .inr (0, [.ref hd, v_buffer, v_fetched, v_compared, v_maker, v_writer, .ref hp, .int i_madeDocuments, .int i_fetchedSteps])), (hp, .inr (4, [.int 0, .int p_i_going, .int p_i_writesLeft]))]) [0, 1] rfl
  have hKc := hK.sub (tys' := []) [] rfl
  refine ps_v (va_runV (As := []) (rest := []) ⟨hx, hb, hml, hown, hw0⟩ (g_needPower l dC dI h0 (.ref hd) v_buffer v_fetched v_compared v_maker v_writer i_madeDocuments i_fetchedSteps hp p_i_going p_i_writesLeft) (cwV 0 hw0 (gd_V 322 323 324 226 325 rfl rfl rfl rfl rfl) rfl rfl rfl (by decide +kernel) ⟨by decide +kernel, by decide +kernel⟩) (prV_R hPc hKc hN (va_recv hKc hPc (ci := 0) (q0 := 0) rfl rfl)) rfl rfl hl.1 rfl (lv_room (Nat.le_of_ble_eq_true rfl)) d_K_revision_1 ⟨by decide +kernel, by decide +kernel⟩) ?_
  refine lv_aload_n hx hb d_K_revision_4 rfl (lv_at hl 0 rfl) ?_
  refine lv_iload_n hx hb d_K_revision_5 rfl (lv_at hl 1 rfl) ?_
  have hPc := hP.sub (ws' := [(h0, .inr (0, [.ref hd, v_buffer, v_fetched, v_compared, v_maker, v_writer, .ref hp, .int i_madeDocuments, .int i_fetchedSteps])), (hd, .inl (cD, 8, .inr (.inr (.inr (.inr ((fD)))))))]) [0, 2] rfl
  have hKc := hK.sub (tys' := [(cD, .object R_D)]) [0] rfl
  refine ps_q (va_runV (As := [.int a1]) (rest := []) ⟨hx, hb, hml, hown, hw0⟩ (g_docAt_S l dC dI h0 v_buffer v_fetched v_compared v_maker v_writer (.ref hp) i_madeDocuments i_fetchedSteps hd cD (fD) a1 hdo (by first | assumption | decide | omega)) (cwV 1 hw0 (gd_V 317 318 319 226 320 rfl rfl rfl rfl rfl) rfl rfl rfl (by decide +kernel) ⟨by decide +kernel, by decide +kernel⟩) (prV_R hPc hKc hN (va_recv hKc hPc (ci := 0) (q0 := 0) rfl rfl)) rfl rfl hl.1 rfl (lv_room (Nat.le_of_ble_eq_true rfl)) d_K_revision_6 ⟨by decide +kernel, by decide +kernel⟩) (fun r_1 hr_1 => ?_)
  obtain rfl : r_1 = some hdo := hr_1
  refine W.eq (g2 := F0 m 9 ls [.ref hdo]) rfl ?_
  refine lv_astore (lv' := [(4, .ref hdo), (0, .ref h0), (1, .int a1), (2, .int (nI r9)), (3, .int 2)]) hx hb d_K_revision_9 hl (by decide) rfl (fun ls hl => ?_)
  refine lv_aload_n hx hb d_K_revision_11 rfl (lv_at hl 1 rfl) ?_
  refine lv_iload_n hx hb d_K_revision_12 rfl (lv_at hl 2 rfl) ?_
  refine lv_iload_n hx hb d_K_revision_13 rfl (lv_at hl 3 rfl) ?_
  have hPc := hP.sub (ws' := [(h0, .inr (0, [.ref hd, v_buffer, v_fetched, v_compared, v_maker, v_writer, .ref hp, .int i_madeDocuments, .int i_fetchedSteps])), (hd, .inl (cD, 8, .inr (.inr (.inr (.inr ((fD))))))), (hdo, .inr (5, [.ref hra, .int (nI df), .int (nI dn)])), (hra, .inl (cR, 64, .inr (.inr (.inr (.inr ((fr)))))))]) [0, 2, 3, 4] rfl
  have hKc := hK.sub (tys' := [(cD, .object R_D), (cR, .object R_V)]) [0, 1] rfl
  refine ps_q (va_runV (As := [.int a1, .int (nI r9)]) (rest := []) ⟨hx, hb, hml, hown, hw0⟩ (g_keptR_S l dC dI h0 v_buffer v_fetched v_compared v_maker v_writer (.ref hp) i_madeDocuments i_fetchedSteps hd cD (fD) _ hra cR df dn (fr) a1 (nI r9) hv (by first | assumption | decide | omega) (by first | assumption | decide | omega) (by first | assumption | decide | omega)) (cwV 2 hw0 (gd_V 345 346 347 226 348 rfl rfl rfl rfl rfl) rfl rfl rfl (by decide +kernel) ⟨by decide +kernel, by decide +kernel⟩) (prV_R hPc hKc hN (va_recv hKc hPc (ci := 0) (q0 := 0) rfl rfl)) rfl rfl hl.1 rfl (lv_room (Nat.le_of_ble_eq_true rfl)) d_K_revision_14 ⟨by decide +kernel, by decide +kernel⟩) (fun r_2 hr_2 => ?_)
  obtain rfl : r_2 = some hv := hr_2
  refine W.eq (g2 := F0 m 17 ls [.ref hv]) rfl ?_
  refine lv_astore (lv' := [(5, .ref hv), (4, .ref hdo), (0, .ref h0), (1, .int a1), (2, .int (nI r9)), (3, .int 2)]) hx hb d_K_revision_17 hl (by decide) rfl (fun ls hl => ?_)
  refine lv_aload hx hb d_K_revision_19 (lv_at hl 1 rfl) ?_
  refine lv_ifnull hx hb d_K_revision_21 ?_
  refine lv_aload hx hb d_K_revision_24 (lv_at hl 1 rfl) ?_
  refine lv_iload_n hx hb d_K_revision_26 rfl (lv_at hl 4 rfl) ?_
  have hPc := hP.sub (ws' := [(hdo, .inr (5, [.ref hra, .int (nI df), .int (nI dn)])), (hra, .inl (cR, 64, .inr (.inr (.inr (.inr ((fr)))))))]) [3, 4] rfl
  have hKc := hK.sub (tys' := [(cR, .object R_V)]) [1] rfl
  refine ps_i (va_runV (As := [.int (nI r9)]) (rest := []) ⟨hx, hb, hml, hown, hw0⟩ (g_asked_T l dC dI hdo hra cR df dn (fr) r9 (by first | assumption | decide | omega) (by first | assumption | decide | omega) (by first | assumption | decide | omega)) (cwV 1 hw0 (gd_V 370 371 372 233 373 rfl rfl rfl rfl rfl) rfl rfl rfl (by decide +kernel) ⟨by decide +kernel, by decide +kernel⟩) (prV_R hPc hKc hN (va_recv hKc hPc (ci := 5) (q0 := 0) rfl rfl)) rfl rfl hl.1 rfl (lv_room (Nat.le_of_ble_eq_true rfl)) d_K_revision_27 ⟨by decide +kernel, by decide +kernel⟩) (fun r_3 hr_3 => ?_)
  obtain rfl : r_3 = 1 := hr_3
  refine lv_if_eq (tgt := 37) hx hb d_K_revision_30 (by decide) (fun h9 => absurd h9 (by decide +kernel)) (fun _ => ?_)
  refine lv_iconst (v := 1) hx hb d_K_revision_33 (by decide) ?_
  refine lv_goto (tgt := 38) hx hb d_K_revision_34 (by decide) ?_
  refine lv_istore (lv' := [(6, .int 1), (5, .ref hv), (4, .ref hdo), (0, .ref h0), (1, .int a1), (2, .int (nI r9)), (3, .int 2)]) hx hb d_K_revision_38 hl (by decide) rfl (fun ls hl => ?_)
  refine lv_aload hx hb d_K_revision_40 (lv_at hl 1 rfl) ?_
  refine lv_ifnull hx hb d_K_revision_42 ?_
  refine lv_iload hx hb d_K_revision_45 (lv_at hl 0 rfl) ?_
  refine lv_if_ne (tgt := 67) hx hb d_K_revision_47 (by decide) (fun _ => ?_) (fun h9 => absurd h9 (by decide +kernel))
  refine lv_iload_n hx hb d_K_revision_67 rfl (lv_at hl 6 rfl) ?_
  refine lv_tableIn (tgt := 109) hx hb d_K_revision_68 (by decide +kernel) (by decide +kernel) rfl (by decide) ?_
  refine lv_aload hx hb d_K_revision_109 (lv_at hl 1 rfl) ?_
  refine va_getN (D := (dC, dI)) (ci := 6) (v := .int sm) (C := R_V) (T := F_V) (N := 3) hx hb hw0 in_V hown hK hP 5 rfl rfl 2 (by decide) (va_Nw.use rfl (hN.1 (.fieldLinkNest R_K 160 "TextKeeper$Revision" "sum" "I" "TextKeeper") (List.mem_of_getElem? (i := 19) rfl))) (fun _ h9 => h9) rfl d_K_revision_111 ?_
  exact W.iret (v := sm) hx hb hr (fun t ht hW => ⟨sm, rfl, rfl, ht⟩) (fun q h => by cases h) d_K_revision_114
set_option maxHeartbeats 4000000 in
set_option maxRecDepth 100000 in
theorem x_rev_A (l : Launch) (hl9 : l.stackTraces = false) (dC : Nat → ClassId) (dI : Nat → Nat → Nat) (sz : Nat) (h0 : Nat) (v_buffer : Value) (v_fetched : Value) (v_compared : Value) (v_maker : Value) (v_writer : Value) (i_madeDocuments : Int32) (i_fetchedSteps : Int32) (hp : Nat) (p_i_going : Int32) (p_i_writesLeft : Int32) (hd : Nat) (cD : ClassId) (fD : Nat → Option Nat) (hdo : Nat) (hra : Nat) (cR : ClassId) (df : Nat) (dn : Nat) (fr : Nat → Option Nat) (hv : Nat) (hpi : Nat) (cB : ClassId) (np : Nat) (fp : Nat → Int32) (au : Int32) (sm : Int32) (a1 : Int32) (r9 : Nat) (a3 : Int32) (hdS : atN 8 fD a1 = some hdo) (hdn : dn ≤ 64) (hkS : atN dn fr (nI r9) = some hv) (ha1 : df ≤ r9) (ha2 : r9 < dn) (hw0x : ¬ a3 = 0) (hw1x : ¬ a3 = 1) (hw2x : ¬ a3 = 2) : vx_Met l y_K_revision k_K_revision ({ frames := 6, cells := 1, slots := 6, locals := 85 } : Room) (va_Pc [.ref h0, .int a1, .int (nI r9), .int a3] (fun U => pc_E (dC, dI) [(h0, .inr (0, [.ref hd, v_buffer, v_fetched, v_compared, v_maker, v_writer, .ref hp, .int i_madeDocuments, .int i_fetchedSteps])), (hp, .inr (4, [.int 0, .int p_i_going, .int p_i_writesLeft])), (hd, .inl (cD, 8, .inr (.inr (.inr (.inr (fD)))))), (hdo, .inr (5, [.ref hra, .int (nI df), .int (nI dn)])), (hra, .inl (cR, 64, .inr (.inr (.inr (.inr (fr)))))), (hv, .inr (6, [.ref hpi, .int au, .int sm])), (hpi, .inl (cB, np, .inl (fp)))] [(cD, .object R_D), (cR, .object R_V), (cB, .byte)] sz U ∧ tw_ok U)) (va_Qi (fun (_ : Int32) (_ : Unit) => False) (fun _ _ => True) (va_A [(h0, .inr (0, [.ref hd, v_buffer, v_fetched, v_compared, v_maker, v_writer, .ref hp, .int i_madeDocuments, .int i_fetchedSteps])), (hp, .inr (4, [.int 0, .int p_i_going, .int p_i_writesLeft])), (hd, .inl (cD, 8, .inr (.inr (.inr (.inr (fD)))))), (hdo, .inr (5, [.ref hra, .int (nI df), .int (nI dn)])), (hra, .inl (cR, 64, .inr (.inr (.inr (.inr (fr)))))), (hv, .inr (6, [.ref hpi, .int au, .int sm])), (hpi, .inl (cB, np, .inl (fp)))] sz)) (vx_X (fun _ : Unit => True) (fun E _ t => E = "java/lang/IllegalArgumentException" ∧ at_E (dC, dI) (va_A [(h0, .inr (0, [.ref hd, v_buffer, v_fetched, v_compared, v_maker, v_writer, .ref hp, .int i_madeDocuments, .int i_fetchedSteps])), (hp, .inr (4, [.int 0, .int p_i_going, .int p_i_writesLeft])), (hd, .inl (cD, 8, .inr (.inr (.inr (.inr (fD)))))), (hdo, .inr (5, [.ref hra, .int (nI df), .int (nI dn)])), (hra, .inl (cR, 64, .inr (.inr (.inr (.inr (fr)))))), (hv, .inr (6, [.ref hpi, .int au, .int sm])), (hpi, .inl (cB, np, .inl (fp)))] sz) [(h0, .inr (0, [.ref hd, v_buffer, v_fetched, v_compared, v_maker, v_writer, .ref hp, .int i_madeDocuments, .int i_fetchedSteps])), (hp, .inr (4, [.int 0, .int p_i_going, .int p_i_writesLeft])), (hd, .inl (cD, 8, .inr (.inr (.inr (.inr (fD)))))), (hdo, .inr (5, [.ref hra, .int (nI df), .int (nI dn)])), (hra, .inl (cR, 64, .inr (.inr (.inr (.inr (fr)))))), (hv, .inr (6, [.ref hpi, .int au, .int sm])), (hpi, .inl (cB, np, .inl (fp)))] [(cD, .object R_D), (cR, .object R_V), (cB, .byte)] t) (va_A [(h0, .inr (0, [.ref hd, v_buffer, v_fetched, v_compared, v_maker, v_writer, .ref hp, .int i_madeDocuments, .int i_fetchedSteps])), (hp, .inr (4, [.int 0, .int p_i_going, .int p_i_writesLeft])), (hd, .inl (cD, 8, .inr (.inr (.inr (.inr (fD)))))), (hdo, .inr (5, [.ref hra, .int (nI df), .int (nI dn)])), (hra, .inl (cR, 64, .inr (.inr (.inr (.inr (fr)))))), (hv, .inr (6, [.ref hpi, .int au, .int sm])), (hpi, .inl (cB, np, .inl (fp)))] sz)) 1 6 (va_A [(h0, .inr (0, [.ref hd, v_buffer, v_fetched, v_compared, v_maker, v_writer, .ref hp, .int i_madeDocuments, .int i_fetchedSteps])), (hp, .inr (4, [.int 0, .int p_i_going, .int p_i_writesLeft])), (hd, .inl (cD, 8, .inr (.inr (.inr (.inr (fD)))))), (hdo, .inr (5, [.ref hra, .int (nI df), .int (nI dn)])), (hra, .inl (cR, 64, .inr (.inr (.inr (.inr (fr)))))), (hv, .inr (6, [.ref hpi, .int au, .int sm])), (hpi, .inl (cB, np, .inl (fp)))] sz) := by
  refine vx_ofW (cc := prog_1_method_12_code) (maxL := 7) (ret := (some .int)) (by decide) rfl ?_
  intro p e s m args below meth c s₁ B hml htab hv
  obtain ⟨rfl, ⟨hsz, hP, hK, hD0, hN⟩, hTw⟩ := hv
  have hx := B.exec
  have hb := B.bytes
  have hr := B.returns
  have hts := atoms_spec (ws := k_K_revision) B.pre
  have hw0 : ∀ w ∈ w0, w.before _ s = true := fun w h => hts w (List.mem_cons_of_mem _ h)
  have hown : s.vm.findClass R_K = some m.cls := findClass_of_methodNamed B.named
  have hlocks := B.notSynchronized
  subst hsz
  have hD := hD0.self (sz := s.heap.size)
  have hTwA := tw_A hTw hP
  generalize hAe : va_A [(h0, .inr (0, [.ref hd, v_buffer, v_fetched, v_compared, v_maker, v_writer, .ref hp, .int i_madeDocuments, .int i_fetchedSteps])), (hp, .inr (4, [.int 0, .int p_i_going, .int p_i_writesLeft])), (hd, .inl (cD, 8, .inr (.inr (.inr (.inr (fD)))))), (hdo, .inr (5, [.ref hra, .int (nI df), .int (nI dn)])), (hra, .inl (cR, 64, .inr (.inr (.inr (.inr (fr)))))), (hv, .inr (6, [.ref hpi, .int au, .int sm])), (hpi, .inl (cB, np, .inl (fp)))] s.heap.size = A at hD hTwA ⊢
  have hA : ∀ q : Nat, s.heap.size ≤ q → A q := fun q h => by rw [← hAe]; exact Or.inr h
  have hS : va_S A s.heap s.heap [] := va_S.rf
  have hP : va_P (dC, dI) vwCl [(h0, .inr (0, [.ref hd, v_buffer, v_fetched, v_compared, v_maker, v_writer, .ref hp, .int i_madeDocuments, .int i_fetchedSteps])), (hp, .inr (4, [.int 0, .int p_i_going, .int p_i_writesLeft])), (hd, .inl (cD, 8, .inr (.inr (.inr (.inr (fD)))))), (hdo, .inr (5, [.ref hra, .int (nI df), .int (nI dn)])), (hra, .inl (cR, 64, .inr (.inr (.inr (.inr (fr)))))), (hv, .inr (6, [.ref hpi, .int au, .int sm])), (hpi, .inl (cB, np, .inl (fp)))] s.heap := hP
  have hl := lv_entry ([.ref h0, .int a1, .int (nI r9), .int a3]) (n := 7) (Nat.le_of_ble_eq_true rfl)
  rw [lg_entry_eq]
  generalize (lg_sl ([.ref h0, .int a1, .int (nI r9), .int a3]) ++ List.replicate (7 - (lg_sl ([.ref h0, .int a1, .int (nI r9), .int a3])).length) Slot.unset).toArray = ls at hl ⊢
  have hl : lv_has ls 7 [(0, .ref h0), (1, .int a1), (2, .int (nI r9)), (3, .int a3)] := hl
  refine lv_aload_n hx hb d_K_revision_0 rfl (lv_at hl 0 rfl) ?_
  have hPc := hP.sub (ws' := [(h0, .inr (0, [.ref hd, v_buffer, v_fetched, v_compared, v_maker, v_writer, .ref hp, .int i_madeDocuments, .int i_fetchedSteps])), (hp, .inr (4, [.int 0, .int p_i_going, .int p_i_writesLeft]))]) [0, 1] rfl
  have hKc := hK.sub (tys' := []) [] rfl
  refine ps_v (va_runV (As := []) (rest := []) ⟨hx, hb, hml, hown, hw0⟩ (g_needPower l dC dI h0 (.ref hd) v_buffer v_fetched v_compared v_maker v_writer i_madeDocuments i_fetchedSteps hp p_i_going p_i_writesLeft) (cwV 0 hw0 (gd_V 322 323 324 226 325 rfl rfl rfl rfl rfl) rfl rfl rfl (by decide +kernel) ⟨by decide +kernel, by decide +kernel⟩) (prV_R hPc hKc hN (va_recv hKc hPc (ci := 0) (q0 := 0) rfl rfl)) rfl rfl hl.1 rfl (lv_room (Nat.le_of_ble_eq_true rfl)) d_K_revision_1 ⟨by decide +kernel, by decide +kernel⟩) ?_
  refine lv_aload_n hx hb d_K_revision_4 rfl (lv_at hl 0 rfl) ?_
  refine lv_iload_n hx hb d_K_revision_5 rfl (lv_at hl 1 rfl) ?_
  have hPc := hP.sub (ws' := [(h0, .inr (0, [.ref hd, v_buffer, v_fetched, v_compared, v_maker, v_writer, .ref hp, .int i_madeDocuments, .int i_fetchedSteps])), (hd, .inl (cD, 8, .inr (.inr (.inr (.inr ((fD)))))))]) [0, 2] rfl
  have hKc := hK.sub (tys' := [(cD, .object R_D)]) [0] rfl
  refine ps_q (va_runV (As := [.int a1]) (rest := []) ⟨hx, hb, hml, hown, hw0⟩ (g_docAt_S l dC dI h0 v_buffer v_fetched v_compared v_maker v_writer (.ref hp) i_madeDocuments i_fetchedSteps hd cD (fD) a1 hdo (by first | assumption | decide | omega)) (cwV 1 hw0 (gd_V 317 318 319 226 320 rfl rfl rfl rfl rfl) rfl rfl rfl (by decide +kernel) ⟨by decide +kernel, by decide +kernel⟩) (prV_R hPc hKc hN (va_recv hKc hPc (ci := 0) (q0 := 0) rfl rfl)) rfl rfl hl.1 rfl (lv_room (Nat.le_of_ble_eq_true rfl)) d_K_revision_6 ⟨by decide +kernel, by decide +kernel⟩) (fun r_1 hr_1 => ?_)
  obtain rfl : r_1 = some hdo := hr_1
  refine W.eq (g2 := F0 m 9 ls [.ref hdo]) rfl ?_
  refine lv_astore (lv' := [(4, .ref hdo), (0, .ref h0), (1, .int a1), (2, .int (nI r9)), (3, .int a3)]) hx hb d_K_revision_9 hl (by decide) rfl (fun ls hl => ?_)
  refine lv_aload_n hx hb d_K_revision_11 rfl (lv_at hl 1 rfl) ?_
  refine lv_iload_n hx hb d_K_revision_12 rfl (lv_at hl 2 rfl) ?_
  refine lv_iload_n hx hb d_K_revision_13 rfl (lv_at hl 3 rfl) ?_
  have hPc := hP.sub (ws' := [(h0, .inr (0, [.ref hd, v_buffer, v_fetched, v_compared, v_maker, v_writer, .ref hp, .int i_madeDocuments, .int i_fetchedSteps])), (hd, .inl (cD, 8, .inr (.inr (.inr (.inr ((fD))))))), (hdo, .inr (5, [.ref hra, .int (nI df), .int (nI dn)])), (hra, .inl (cR, 64, .inr (.inr (.inr (.inr ((fr)))))))]) [0, 2, 3, 4] rfl
  have hKc := hK.sub (tys' := [(cD, .object R_D), (cR, .object R_V)]) [0, 1] rfl
  refine ps_q (va_runV (As := [.int a1, .int (nI r9)]) (rest := []) ⟨hx, hb, hml, hown, hw0⟩ (g_keptR_S l dC dI h0 v_buffer v_fetched v_compared v_maker v_writer (.ref hp) i_madeDocuments i_fetchedSteps hd cD (fD) _ hra cR df dn (fr) a1 (nI r9) hv (by first | assumption | decide | omega) (by first | assumption | decide | omega) (by first | assumption | decide | omega)) (cwV 2 hw0 (gd_V 345 346 347 226 348 rfl rfl rfl rfl rfl) rfl rfl rfl (by decide +kernel) ⟨by decide +kernel, by decide +kernel⟩) (prV_R hPc hKc hN (va_recv hKc hPc (ci := 0) (q0 := 0) rfl rfl)) rfl rfl hl.1 rfl (lv_room (Nat.le_of_ble_eq_true rfl)) d_K_revision_14 ⟨by decide +kernel, by decide +kernel⟩) (fun r_2 hr_2 => ?_)
  obtain rfl : r_2 = some hv := hr_2
  refine W.eq (g2 := F0 m 17 ls [.ref hv]) rfl ?_
  refine lv_astore (lv' := [(5, .ref hv), (4, .ref hdo), (0, .ref h0), (1, .int a1), (2, .int (nI r9)), (3, .int a3)]) hx hb d_K_revision_17 hl (by decide) rfl (fun ls hl => ?_)
  refine lv_aload hx hb d_K_revision_19 (lv_at hl 1 rfl) ?_
  refine lv_ifnull hx hb d_K_revision_21 ?_
  refine lv_aload hx hb d_K_revision_24 (lv_at hl 1 rfl) ?_
  refine lv_iload_n hx hb d_K_revision_26 rfl (lv_at hl 4 rfl) ?_
  have hPc := hP.sub (ws' := [(hdo, .inr (5, [.ref hra, .int (nI df), .int (nI dn)])), (hra, .inl (cR, 64, .inr (.inr (.inr (.inr ((fr)))))))]) [3, 4] rfl
  have hKc := hK.sub (tys' := [(cR, .object R_V)]) [1] rfl
  refine ps_i (va_runV (As := [.int (nI r9)]) (rest := []) ⟨hx, hb, hml, hown, hw0⟩ (g_asked_T l dC dI hdo hra cR df dn (fr) r9 (by first | assumption | decide | omega) (by first | assumption | decide | omega) (by first | assumption | decide | omega)) (cwV 1 hw0 (gd_V 370 371 372 233 373 rfl rfl rfl rfl rfl) rfl rfl rfl (by decide +kernel) ⟨by decide +kernel, by decide +kernel⟩) (prV_R hPc hKc hN (va_recv hKc hPc (ci := 5) (q0 := 0) rfl rfl)) rfl rfl hl.1 rfl (lv_room (Nat.le_of_ble_eq_true rfl)) d_K_revision_27 ⟨by decide +kernel, by decide +kernel⟩) (fun r_3 hr_3 => ?_)
  obtain rfl : r_3 = 1 := hr_3
  refine lv_if_eq (tgt := 37) hx hb d_K_revision_30 (by decide) (fun h9 => absurd h9 (by decide +kernel)) (fun _ => ?_)
  refine lv_iconst (v := 1) hx hb d_K_revision_33 (by decide) ?_
  refine lv_goto (tgt := 38) hx hb d_K_revision_34 (by decide) ?_
  refine lv_istore (lv' := [(6, .int 1), (5, .ref hv), (4, .ref hdo), (0, .ref h0), (1, .int a1), (2, .int (nI r9)), (3, .int a3)]) hx hb d_K_revision_38 hl (by decide) rfl (fun ls hl => ?_)
  refine lv_aload hx hb d_K_revision_40 (lv_at hl 1 rfl) ?_
  refine lv_ifnull hx hb d_K_revision_42 ?_
  refine lv_iload hx hb d_K_revision_45 (lv_at hl 0 rfl) ?_
  refine lv_if_ne (tgt := 67) hx hb d_K_revision_47 (by decide) (fun _ => ?_) (fun h9 => absurd h9 (by decide +kernel))
  refine lv_iload_n hx hb d_K_revision_67 rfl (lv_at hl 6 rfl) ?_
  refine lv_tableOut (tgt := 115) hx hb d_K_revision_68 (tab_d hw0x hw1x hw2x) (by decide) ?_
  have hP9 := hP.sub (ws' := [(h0, .inr (0, [.ref hd, v_buffer, v_fetched, v_compared, v_maker, v_writer, .ref hp, .int i_madeDocuments, .int i_fetchedSteps])), (hp, .inr (4, [.int 0, .int p_i_going, .int p_i_writesLeft])), (hd, .inl (cD, 8, .inr (.inr (.inr (.inr (fD)))))), (hdo, .inr (5, [.ref hra, .int (nI df), .int (nI dn)])), (hra, .inl (cR, 64, .inr (.inr (.inr (.inr (fr)))))), (hv, .inr (6, [.ref hpi, .int au, .int sm])), (hpi, .inl (cB, np, .inl (fp)))]) [0, 1, 2, 3, 4, 5, 6] rfl
  have hD9 := hD.sub (ws' := [(h0, .inr (0, [.ref hd, v_buffer, v_fetched, v_compared, v_maker, v_writer, .ref hp, .int i_madeDocuments, .int i_fetchedSteps])), (hp, .inr (4, [.int 0, .int p_i_going, .int p_i_writesLeft])), (hd, .inl (cD, 8, .inr (.inr (.inr (.inr (fD)))))), (hdo, .inr (5, [.ref hra, .int (nI df), .int (nI dn)])), (hra, .inl (cR, 64, .inr (.inr (.inr (.inr (fr)))))), (hv, .inr (6, [.ref hpi, .int au, .int sm])), (hpi, .inl (cB, np, .inl (fp)))]) [0, 1, 2, 3, 4, 5, 6] (by decide) rfl
  have hK9 := hK.sub (tys' := [(cD, .object R_D), (cR, .object R_V), (cB, .byte)]) [0, 1, 2] rfl
  have tw_at : ∀ w ∈ vx_at0 "TextKeeper" 148 "java/lang/IllegalArgumentException" ["java/lang/RuntimeException", "java/lang/Exception"], w.before _ s = true := vx_hat (fun w h => hw0 w (twA_1 w h)) twA_2 (fun w h => va_Nw.use (nw0_tab w h) (hN.1 w h))
  exact vx_throw0 (names := ["java/lang/RuntimeException", "java/lang/Exception"]) (ik := 146) (ic := 148) (A := A) hx hb hl9 hown (by decide +kernel) (by decide +kernel) (hw0 (.classLink "TextKeeper" 146 "java/lang/IllegalArgumentException") (List.mem_of_getElem? (i := 493) rfl)) (hw0 (.initialized "java/lang/IllegalArgumentException") (List.mem_of_getElem? (i := 430) rfl)) tw_at twA_g hTwA.1 hTwA.2 hS (by rw [hml]; exact hl.1) d_K_revision_115 d_K_revision_118 d_K_revision_119 d_K_revision_122 (fun x hx => (htab x hx).elim) (by decide +kernel) (by decide +kernel) (by decide +kernel) (by decide +kernel) hlocks (fun t hvm hz hk => ⟨(), trivial, ⟨rfl, hP9.kept (fun k q hq => hk _ ((hP9 k q hq).lt)), va_K.moved hvm hK9, hD9⟩, Nat.le_trans hS.1 hz, fun q h hn => (hk q (Nat.lt_of_lt_of_le h hS.1)).trans (hS.2.1 q h hn)⟩) hS.2.2 (by decide +kernel) (by decide +kernel)
