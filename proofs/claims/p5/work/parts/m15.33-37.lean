section
set_option maxHeartbeats 4000000 in
set_option maxRecDepth 100000 in
theorem x_rev_D0 (l : Launch) (hl9 : l.stackTraces = false) (dC : Nat → ClassId) (dI : Nat → Nat → Nat) (sz : Nat) (h0 : Nat) (v_buffer : Value) (v_fetched : Value) (v_compared : Value) (v_maker : Value) (v_writer : Value) (i_madeDocuments : Int32) (i_fetchedSteps : Int32) (hp : Nat) (p_i_going : Int32) (p_i_writesLeft : Int32) (hd : Nat) (cD : ClassId) (fD : Nat → Option Nat) (a1 : Int32) (a2 : Int32) (a3 : Int32) (hdN : atN 8 fD a1 = none) : vx_Met l y_K_revision k_K_revision ({ frames := 6, cells := 1, slots := 6, locals := 85 } : Room) (va_Pc [.ref h0, .int a1, .int a2, .int a3] (fun U => pc_E (dC, dI) [(h0, .inr (0, [.ref hd, v_buffer, v_fetched, v_compared, v_maker, v_writer, .ref hp, .int i_madeDocuments, .int i_fetchedSteps])), (hp, .inr (4, [.int 0, .int p_i_going, .int p_i_writesLeft])), (hd, .inl (cD, 8, .inr (.inr (.inr (.inr (fD))))))] [(cD, .object R_D)] sz U ∧ tw_ok U)) (va_Qi (fun (_ : Int32) (_ : Unit) => False) (fun _ _ => True) (va_A [(h0, .inr (0, [.ref hd, v_buffer, v_fetched, v_compared, v_maker, v_writer, .ref hp, .int i_madeDocuments, .int i_fetchedSteps])), (hp, .inr (4, [.int 0, .int p_i_going, .int p_i_writesLeft])), (hd, .inl (cD, 8, .inr (.inr (.inr (.inr (fD))))))] sz)) (vx_X (fun _ : Unit => True) (fun E _ t => E = "java/util/NoSuchElementException" ∧ at_E (dC, dI) (va_A [(h0, .inr (0, [.ref hd, v_buffer, v_fetched, v_compared, v_maker, v_writer, .ref hp, .int i_madeDocuments, .int i_fetchedSteps])), (hp, .inr (4, [.int 0, .int p_i_going, .int p_i_writesLeft])), (hd, .inl (cD, 8, .inr (.inr (.inr (.inr (fD))))))] sz) [(h0, .inr (0, [.ref hd, v_buffer, v_fetched, v_compared, v_maker, v_writer, .ref hp, .int i_madeDocuments, .int i_fetchedSteps])), (hp, .inr (4, [.int 0, .int p_i_going, .int p_i_writesLeft])), (hd, .inl (cD, 8, .inr (.inr (.inr (.inr (fD))))))] [(cD, .object R_D)] t) (va_A [(h0, .inr (0, [.ref hd, v_buffer, v_fetched, v_compared, v_maker, v_writer, .ref hp, .int i_madeDocuments, .int i_fetchedSteps])), (hp, .inr (4, [.int 0, .int p_i_going, .int p_i_writesLeft])), (hd, .inl (cD, 8, .inr (.inr (.inr (.inr (fD))))))] sz)) 1 6 (va_A [(h0, .inr (0, [.ref hd, v_buffer, v_fetched, v_compared, v_maker, v_writer, .ref hp, .int i_madeDocuments, .int i_fetchedSteps])), (hp, .inr (4, [.int 0, .int p_i_going, .int p_i_writesLeft])), (hd, .inl (cD, 8, .inr (.inr (.inr (.inr (fD))))))] sz) := by
  refine vx_ofW (cc := prog_1_method_12_code) (maxL := 7) (ret := (some .int)) (by decide) rfl ?_
  intro p e s m args below meth c s₁ B hml htab hv
  obtain ⟨rfl, ⟨hsz, hP, hK, hD0, hN⟩, hTw⟩ := hv
  have hx := B.exec
  have hb := B.bytes
  have hr := B.returns
  have hts := atoms_spec (ws := k_K_revision) B.pre
  have hw0 : ∀ w ∈ w0, w.before _ s = true := fun w h => hts w (List.mem_cons_of_mem _ h)
  have hown : s.vm.findClass R_K = some m.cls := findClass_of_methodNamed B.named
  have hlocks := B.notSynchronized
  subst hsz
  have hD := hD0.self (sz := s.heap.size)
  have hTwA := tw_A hTw hP
  generalize hAe : va_A [(h0, .inr (0, [.ref hd, v_buffer, v_fetched, v_compared, v_maker, v_writer, .ref hp, .int i_madeDocuments, .int i_fetchedSteps])), (hp, .inr (4, [.int 0, .int p_i_going, .int p_i_writesLeft])), (hd, .inl (cD, 8, .inr (.inr (.inr (.inr (fD))))))] s.heap.size = A at hD hTwA ⊢
  have hA : ∀ q : Nat, s.heap.size ≤ q → A q := fun q h => by rw [← hAe]; exact Or.inr h
  have hS : va_S A s.heap s.heap [] := va_S.rf
  have hP : va_P (dC, dI) vwCl [(h0, .inr (0, [.ref hd, v_buffer, v_fetched, v_compared, v_maker, v_writer, .ref hp, .int i_madeDocuments, .int i_fetchedSteps])), (hp, .inr (4, [.int 0, .int p_i_going, .int p_i_writesLeft])), (hd, .inl (cD, 8, .inr (.inr (.inr (.inr (fD))))))] s.heap := hP
  have hl := lv_entry ([.ref h0, .int a1, .int a2, .int a3]) (n := 7) (Nat.le_of_ble_eq_true rfl)
  rw [lg_entry_eq]
  generalize (lg_sl ([.ref h0, .int a1, .int a2, .int a3]) ++ List.replicate (7 - (lg_sl ([.ref h0, .int a1, .int a2, .int a3])).length) Slot.unset).toArray = ls at hl ⊢
  have hl : lv_has ls 7 [(0, .ref h0), (1, .int a1), (2, .int a2), (3, .int a3)] := hl
  refine lv_aload_n hx hb d_K_revision_0 rfl (lv_at hl 0 rfl) ?_
  have hPc := hP.sub (ws' := [(h0, .inr (0, [.ref hd, v_buffer, v_fetched, v_compared, v_maker, v_writer, .ref hp, .int i_madeDocuments, .int i_fetchedSteps])), (hp, .inr (4, [.int 0, .int p_i_going, .int p_i_writesLeft]))]) [0, 1] rfl
  have hKc := hK.sub (tys' := []) [] rfl
  refine ps_v (va_runV (As := []) (rest := []) ⟨hx, hb, hml, hown, hw0⟩ (g_needPower l dC dI h0 (.ref hd) v_buffer v_fetched v_compared v_maker v_writer i_madeDocuments i_fetchedSteps hp p_i_going p_i_writesLeft) (cwV 0 hw0 (gd_Vm wm_404 wm_405 wm_406 wm_308 wm_407) rfl rfl rfl (by decide +kernel) ⟨by decide +kernel, by decide +kernel⟩) (prV_R hPc hKc hN (va_recv hKc hPc (ci := 0) (q0 := 0) rfl rfl)) rfl rfl hl.1 rfl (lv_room (Nat.le_of_ble_eq_true rfl)) d_K_revision_1 ⟨by decide +kernel, by decide +kernel⟩) ?_
  refine lv_aload_n hx hb d_K_revision_4 rfl (lv_at hl 0 rfl) ?_
  refine lv_iload_n hx hb d_K_revision_5 rfl (lv_at hl 1 rfl) ?_
  have hPc := hP.sub (ws' := [(h0, .inr (0, [.ref hd, v_buffer, v_fetched, v_compared, v_maker, v_writer, .ref hp, .int i_madeDocuments, .int i_fetchedSteps])), (hd, .inl (cD, 8, .inr (.inr (.inr (.inr ((fD)))))))]) [0, 2] rfl
  have hKc := hK.sub (tys' := [(cD, .object R_D)]) [0] rfl
  refine ps_q (va_runV (As := [.int a1]) (rest := []) ⟨hx, hb, hml, hown, hw0⟩ (g_docAt_N l dC dI h0 v_buffer v_fetched v_compared v_maker v_writer (.ref hp) i_madeDocuments i_fetchedSteps hd cD (fD) a1 (by first | assumption | decide | omega)) (cwV 1 hw0 (gd_Vm wm_399 wm_400 wm_401 wm_308 wm_402) rfl rfl rfl (by decide +kernel) ⟨by decide +kernel, by decide +kernel⟩) (prV_R hPc hKc hN (va_recv hKc hPc (ci := 0) (q0 := 0) rfl rfl)) rfl rfl hl.1 rfl (lv_room (Nat.le_of_ble_eq_true rfl)) d_K_revision_6 ⟨by decide +kernel, by decide +kernel⟩) (fun r_1 hr_1 => ?_)
  obtain rfl : r_1 = none := hr_1
  refine W.eq (g2 := F0 m 9 ls [.null]) rfl ?_
  refine lv_astoreN (lv' := [(4, .null), (0, .ref h0), (1, .int a1), (2, .int a2), (3, .int a3)]) hx hb d_K_revision_9 hl (by decide) rfl (fun ls hl => ?_)
  refine lv_aload_n hx hb d_K_revision_11 rfl (lv_at hl 1 rfl) ?_
  refine lv_iload_n hx hb d_K_revision_12 rfl (lv_at hl 2 rfl) ?_
  refine lv_iload_n hx hb d_K_revision_13 rfl (lv_at hl 3 rfl) ?_
  have hPc := hP.sub (ws' := [(h0, .inr (0, [.ref hd, v_buffer, v_fetched, v_compared, v_maker, v_writer, .ref hp, .int i_madeDocuments, .int i_fetchedSteps])), (hd, .inl (cD, 8, .inr (.inr (.inr (.inr ((fD)))))))]) [0, 2] rfl
  have hKc := hK.sub (tys' := [(cD, .object R_D)]) [0] rfl
  refine ps_q (va_runV (As := [.int a1, .int a2]) (rest := []) ⟨hx, hb, hml, hown, hw0⟩ (g_keptR_D l dC dI h0 v_buffer v_fetched v_compared v_maker v_writer (.ref hp) i_madeDocuments i_fetchedSteps hd cD (fD) a1 a2 (by first | assumption | decide | omega)) (cwV 2 hw0 (gd_Vm wm_427 wm_428 wm_429 wm_308 wm_430) rfl rfl rfl (by decide +kernel) ⟨by decide +kernel, by decide +kernel⟩) (prV_R hPc hKc hN (va_recv hKc hPc (ci := 0) (q0 := 0) rfl rfl)) rfl rfl hl.1 rfl (lv_room (Nat.le_of_ble_eq_true rfl)) d_K_revision_14 ⟨by decide +kernel, by decide +kernel⟩) (fun r_2 hr_2 => ?_)
  obtain rfl : r_2 = none := hr_2
  refine W.eq (g2 := F0 m 17 ls [.null]) rfl ?_
  refine lv_astoreN (lv' := [(5, .null), (4, .null), (0, .ref h0), (1, .int a1), (2, .int a2), (3, .int a3)]) hx hb d_K_revision_17 hl (by decide) rfl (fun ls hl => ?_)
  refine lv_aloadN hx hb d_K_revision_19 (lv_at hl 1 rfl) ?_
  refine lv_ifnullN (tgt := 37) hx hb d_K_revision_21 (by decide) ?_
  refine lv_iconst (v := 0) hx hb d_K_revision_37 (by decide) ?_
  refine lv_istore (lv' := [(6, .int 0), (5, .null), (4, .null), (0, .ref h0), (1, .int a1), (2, .int a2), (3, .int a3)]) hx hb d_K_revision_38 hl (by decide) rfl (fun ls hl => ?_)
  refine lv_aloadN hx hb d_K_revision_40 (lv_at hl 1 rfl) ?_
  refine lv_ifnullN (tgt := 59) hx hb d_K_revision_42 (by decide) ?_
  have hP9 := hP.sub (ws' := [(h0, .inr (0, [.ref hd, v_buffer, v_fetched, v_compared, v_maker, v_writer, .ref hp, .int i_madeDocuments, .int i_fetchedSteps])), (hp, .inr (4, [.int 0, .int p_i_going, .int p_i_writesLeft])), (hd, .inl (cD, 8, .inr (.inr (.inr (.inr (fD))))))]) [0, 1, 2] rfl
  have hD9 := hD.sub (ws' := [(h0, .inr (0, [.ref hd, v_buffer, v_fetched, v_compared, v_maker, v_writer, .ref hp, .int i_madeDocuments, .int i_fetchedSteps])), (hp, .inr (4, [.int 0, .int p_i_going, .int p_i_writesLeft])), (hd, .inl (cD, 8, .inr (.inr (.inr (.inr (fD))))))]) [0, 1, 2] (by decide) rfl
  have hK9 := hK.sub (tys' := [(cD, .object R_D)]) [0] rfl
  have tw_at : ∀ w ∈ vx_at0 "TextKeeper" 142 "java/util/NoSuchElementException" ["java/lang/RuntimeException", "java/lang/Exception"], w.before _ s = true := vx_hat (fun w h => hw0 w (twN_1 w h)) twN_2 (fun w h => va_Nw.use (nw0_tab w h) (hN.1 w h))
  exact vx_throw0 (names := ["java/lang/RuntimeException", "java/lang/Exception"]) (ik := 140) (ic := 142) (A := A) hx hb hl9 hown (by decide +kernel) (by decide +kernel) (hw0 (.classLink "TextKeeper" 140 "java/util/NoSuchElementException") wm_54) (hw0 (.initialized "java/util/NoSuchElementException") wm_4) tw_at twN_g hTwA.1 hTwA.2 hS (by rw [hml]; exact hl.1) d_K_revision_59 d_K_revision_62 d_K_revision_63 d_K_revision_66 (fun x hx => (htab x hx).elim) (by decide +kernel) (by decide +kernel) (by decide +kernel) (by decide +kernel) hlocks (fun t hvm hz hk => ⟨(), trivial, ⟨rfl, hP9.kept (fun k q hq => hk _ ((hP9 k q hq).lt)), va_K.moved hvm hK9, hD9⟩, Nat.le_trans hS.1 hz, fun q h hn => (hk q (Nat.lt_of_lt_of_le h hS.1)).trans (hS.2.1 q h hn)⟩) hS.2.2 (by decide +kernel) (by decide +kernel)
set_option maxHeartbeats 4000000 in
set_option maxRecDepth 100000 in
theorem x_rev_K0 (l : Launch) (hl9 : l.stackTraces = false) (dC : Nat → ClassId) (dI : Nat → Nat → Nat) (sz : Nat) (h0 : Nat) (v_buffer : Value) (v_fetched : Value) (v_compared : Value) (v_maker : Value) (v_writer : Value) (i_madeDocuments : Int32) (i_fetchedSteps : Int32) (hp : Nat) (p_i_going : Int32) (p_i_writesLeft : Int32) (hd : Nat) (cD : ClassId) (fD : Nat → Option Nat) (hdo : Nat) (hra : Nat) (cR : ClassId) (df : Nat) (dn : Nat) (fr : Nat → Option Nat) (a1 : Int32) (a2 : Int32) (a3 : Int32) (hdS : atN 8 fD a1 = some hdo) (hdn : dn ≤ 64) (hna : a2 < nI df ∨ nI dn ≤ a2) (hkN : atN dn fr a2 = none) : vx_Met l y_K_revision k_K_revision ({ frames := 6, cells := 1, slots := 6, locals := 85 } : Room) (va_Pc [.ref h0, .int a1, .int a2, .int a3] (fun U => pc_E (dC, dI) [(h0, .inr (0, [.ref hd, v_buffer, v_fetched, v_compared, v_maker, v_writer, .ref hp, .int i_madeDocuments, .int i_fetchedSteps])), (hp, .inr (4, [.int 0, .int p_i_going, .int p_i_writesLeft])), (hd, .inl (cD, 8, .inr (.inr (.inr (.inr (fD)))))), (hdo, .inr (5, [.ref hra, .int (nI df), .int (nI dn)])), (hra, .inl (cR, 64, .inr (.inr (.inr (.inr (fr))))))] [(cD, .object R_D), (cR, .object R_V)] sz U ∧ tw_ok U)) (va_Qi (fun (_ : Int32) (_ : Unit) => False) (fun _ _ => True) (va_A [(h0, .inr (0, [.ref hd, v_buffer, v_fetched, v_compared, v_maker, v_writer, .ref hp, .int i_madeDocuments, .int i_fetchedSteps])), (hp, .inr (4, [.int 0, .int p_i_going, .int p_i_writesLeft])), (hd, .inl (cD, 8, .inr (.inr (.inr (.inr (fD)))))), (hdo, .inr (5, [.ref hra, .int (nI df), .int (nI dn)])), (hra, .inl (cR, 64, .inr (.inr (.inr (.inr (fr))))))] sz)) (vx_X (fun _ : Unit => True) (fun E _ t => E = "java/util/NoSuchElementException" ∧ at_E (dC, dI) (va_A [(h0, .inr (0, [.ref hd, v_buffer, v_fetched, v_compared, v_maker, v_writer, .ref hp, .int i_madeDocuments, .int i_fetchedSteps])), (hp, .inr (4, [.int 0, .int p_i_going, .int p_i_writesLeft])), (hd, .inl (cD, 8, .inr (.inr (.inr (.inr (fD)))))), (hdo, .inr (5, [.ref hra, .int (nI df), .int (nI dn)])), (hra, .inl (cR, 64, .inr (.inr (.inr (.inr (fr))))))] sz) [(h0, .inr (0, [.ref hd, v_buffer, v_fetched, v_compared, v_maker, v_writer, .ref hp, .int i_madeDocuments, .int i_fetchedSteps])), (hp, .inr (4, [.int 0, .int p_i_going, .int p_i_writesLeft])), (hd, .inl (cD, 8, .inr (.inr (.inr (.inr (fD)))))), (hdo, .inr (5, [.ref hra, .int (nI df), .int (nI dn)])), (hra, .inl (cR, 64, .inr (.inr (.inr (.inr (fr))))))] [(cD, .object R_D), (cR, .object R_V)] t) (va_A [(h0, .inr (0, [.ref hd, v_buffer, v_fetched, v_compared, v_maker, v_writer, .ref hp, .int i_madeDocuments, .int i_fetchedSteps])), (hp, .inr (4, [.int 0, .int p_i_going, .int p_i_writesLeft])), (hd, .inl (cD, 8, .inr (.inr (.inr (.inr (fD)))))), (hdo, .inr (5, [.ref hra, .int (nI df), .int (nI dn)])), (hra, .inl (cR, 64, .inr (.inr (.inr (.inr (fr))))))] sz)) 1 6 (va_A [(h0, .inr (0, [.ref hd, v_buffer, v_fetched, v_compared, v_maker, v_writer, .ref hp, .int i_madeDocuments, .int i_fetchedSteps])), (hp, .inr (4, [.int 0, .int p_i_going, .int p_i_writesLeft])), (hd, .inl (cD, 8, .inr (.inr (.inr (.inr (fD)))))), (hdo, .inr (5, [.ref hra, .int (nI df), .int (nI dn)])), (hra, .inl (cR, 64, .inr (.inr (.inr (.inr (fr))))))] sz) := by
  refine vx_ofW (cc := prog_1_method_12_code) (maxL := 7) (ret := (some .int)) (by decide) rfl ?_
  intro p e s m args below meth c s₁ B hml htab hv
  obtain ⟨rfl, ⟨hsz, hP, hK, hD0, hN⟩, hTw⟩ := hv
  have hx := B.exec
  have hb := B.bytes
  have hr := B.returns
  have hts := atoms_spec (ws := k_K_revision) B.pre
  have hw0 : ∀ w ∈ w0, w.before _ s = true := fun w h => hts w (List.mem_cons_of_mem _ h)
  have hown : s.vm.findClass R_K = some m.cls := findClass_of_methodNamed B.named
  have hlocks := B.notSynchronized
  subst hsz
  have hD := hD0.self (sz := s.heap.size)
  have hTwA := tw_A hTw hP
  generalize hAe : va_A [(h0, .inr (0, [.ref hd, v_buffer, v_fetched, v_compared, v_maker, v_writer, .ref hp, .int i_madeDocuments, .int i_fetchedSteps])), (hp, .inr (4, [.int 0, .int p_i_going, .int p_i_writesLeft])), (hd, .inl (cD, 8, .inr (.inr (.inr (.inr (fD)))))), (hdo, .inr (5, [.ref hra, .int (nI df), .int (nI dn)])), (hra, .inl (cR, 64, .inr (.inr (.inr (.inr (fr))))))] s.heap.size = A at hD hTwA ⊢
  have hA : ∀ q : Nat, s.heap.size ≤ q → A q := fun q h => by rw [← hAe]; exact Or.inr h
  have hS : va_S A s.heap s.heap [] := va_S.rf
  have hP : va_P (dC, dI) vwCl [(h0, .inr (0, [.ref hd, v_buffer, v_fetched, v_compared, v_maker, v_writer, .ref hp, .int i_madeDocuments, .int i_fetchedSteps])), (hp, .inr (4, [.int 0, .int p_i_going, .int p_i_writesLeft])), (hd, .inl (cD, 8, .inr (.inr (.inr (.inr (fD)))))), (hdo, .inr (5, [.ref hra, .int (nI df), .int (nI dn)])), (hra, .inl (cR, 64, .inr (.inr (.inr (.inr (fr))))))] s.heap := hP
  have hl := lv_entry ([.ref h0, .int a1, .int a2, .int a3]) (n := 7) (Nat.le_of_ble_eq_true rfl)
  rw [lg_entry_eq]
  generalize (lg_sl ([.ref h0, .int a1, .int a2, .int a3]) ++ List.replicate (7 - (lg_sl ([.ref h0, .int a1, .int a2, .int a3])).length) Slot.unset).toArray = ls at hl ⊢
  have hl : lv_has ls 7 [(0, .ref h0), (1, .int a1), (2, .int a2), (3, .int a3)] := hl
  refine lv_aload_n hx hb d_K_revision_0 rfl (lv_at hl 0 rfl) ?_
  have hPc := hP.sub (ws' := [(h0, .inr (0, [.ref hd, v_buffer, v_fetched, v_compared, v_maker, v_writer, .ref hp, .int i_madeDocuments, .int i_fetchedSteps])), (hp, .inr (4, [.int 0, .int p_i_going, .int p_i_writesLeft]))]) [0, 1] rfl
  have hKc := hK.sub (tys' := []) [] rfl
  refine ps_v (va_runV (As := []) (rest := []) ⟨hx, hb, hml, hown, hw0⟩ (g_needPower l dC dI h0 (.ref hd) v_buffer v_fetched v_compared v_maker v_writer i_madeDocuments i_fetchedSteps hp p_i_going p_i_writesLeft) (cwV 0 hw0 (gd_Vm wm_404 wm_405 wm_406 wm_308 wm_407) rfl rfl rfl (by decide +kernel) ⟨by decide +kernel, by decide +kernel⟩) (prV_R hPc hKc hN (va_recv hKc hPc (ci := 0) (q0 := 0) rfl rfl)) rfl rfl hl.1 rfl (lv_room (Nat.le_of_ble_eq_true rfl)) d_K_revision_1 ⟨by decide +kernel, by decide +kernel⟩) ?_
  refine lv_aload_n hx hb d_K_revision_4 rfl (lv_at hl 0 rfl) ?_
  refine lv_iload_n hx hb d_K_revision_5 rfl (lv_at hl 1 rfl) ?_
  have hPc := hP.sub (ws' := [(h0, .inr (0, [.ref hd, v_buffer, v_fetched, v_compared, v_maker, v_writer, .ref hp, .int i_madeDocuments, .int i_fetchedSteps])), (hd, .inl (cD, 8, .inr (.inr (.inr (.inr ((fD)))))))]) [0, 2] rfl
  have hKc := hK.sub (tys' := [(cD, .object R_D)]) [0] rfl
  refine ps_q (va_runV (As := [.int a1]) (rest := []) ⟨hx, hb, hml, hown, hw0⟩ (g_docAt_S l dC dI h0 v_buffer v_fetched v_compared v_maker v_writer (.ref hp) i_madeDocuments i_fetchedSteps hd cD (fD) a1 hdo (by first | assumption | decide | omega)) (cwV 1 hw0 (gd_Vm wm_399 wm_400 wm_401 wm_308 wm_402) rfl rfl rfl (by decide +kernel) ⟨by decide +kernel, by decide +kernel⟩) (prV_R hPc hKc hN (va_recv hKc hPc (ci := 0) (q0 := 0) rfl rfl)) rfl rfl hl.1 rfl (lv_room (Nat.le_of_ble_eq_true rfl)) d_K_revision_6 ⟨by decide +kernel, by decide +kernel⟩) (fun r_1 hr_1 => ?_)
  obtain rfl : r_1 = some hdo := hr_1
  refine W.eq (g2 := F0 m 9 ls [.ref hdo]) rfl ?_
  refine lv_astore (lv' := [(4, .ref hdo), (0, .ref h0), (1, .int a1), (2, .int a2), (3, .int a3)]) hx hb d_K_revision_9 hl (by decide) rfl (fun ls hl => ?_)
  refine lv_aload_n hx hb d_K_revision_11 rfl (lv_at hl 1 rfl) ?_
  refine lv_iload_n hx hb d_K_revision_12 rfl (lv_at hl 2 rfl) ?_
  refine lv_iload_n hx hb d_K_revision_13 rfl (lv_at hl 3 rfl) ?_
  have hPc := hP.sub (ws' := [(h0, .inr (0, [.ref hd, v_buffer, v_fetched, v_compared, v_maker, v_writer, .ref hp, .int i_madeDocuments, .int i_fetchedSteps])), (hd, .inl (cD, 8, .inr (.inr (.inr (.inr ((fD))))))), (hdo, .inr (5, [.ref hra, .int (nI df), .int (nI dn)])), (hra, .inl (cR, 64, .inr (.inr (.inr (.inr ((fr)))))))]) [0, 2, 3, 4] rfl
  have hKc := hK.sub (tys' := [(cD, .object R_D), (cR, .object R_V)]) [0, 1] rfl
  refine ps_q (va_runV (As := [.int a1, .int a2]) (rest := []) ⟨hx, hb, hml, hown, hw0⟩ (g_keptR_N l dC dI h0 v_buffer v_fetched v_compared v_maker v_writer (.ref hp) i_madeDocuments i_fetchedSteps hd cD (fD) _ hra cR df dn (fr) a1 a2 (by first | assumption | decide | omega) (by first | assumption | decide | omega) (by first | assumption | decide | omega)) (cwV 2 hw0 (gd_Vm wm_427 wm_428 wm_429 wm_308 wm_430) rfl rfl rfl (by decide +kernel) ⟨by decide +kernel, by decide +kernel⟩) (prV_R hPc hKc hN (va_recv hKc hPc (ci := 0) (q0 := 0) rfl rfl)) rfl rfl hl.1 rfl (lv_room (Nat.le_of_ble_eq_true rfl)) d_K_revision_14 ⟨by decide +kernel, by decide +kernel⟩) (fun r_2 hr_2 => ?_)
  obtain rfl : r_2 = none := hr_2
  refine W.eq (g2 := F0 m 17 ls [.null]) rfl ?_
  refine lv_astoreN (lv' := [(5, .null), (4, .ref hdo), (0, .ref h0), (1, .int a1), (2, .int a2), (3, .int a3)]) hx hb d_K_revision_17 hl (by decide) rfl (fun ls hl => ?_)
  refine lv_aload hx hb d_K_revision_19 (lv_at hl 1 rfl) ?_
  refine lv_ifnull hx hb d_K_revision_21 ?_
  refine lv_aload hx hb d_K_revision_24 (lv_at hl 1 rfl) ?_
  refine lv_iload_n hx hb d_K_revision_26 rfl (lv_at hl 4 rfl) ?_
  have hPc := hP.sub (ws' := [(hdo, .inr (5, [.ref hra, .int (nI df), .int (nI dn)])), (hra, .inl (cR, 64, .inr (.inr (.inr (.inr ((fr)))))))]) [3, 4] rfl
  have hKc := hK.sub (tys' := [(cR, .object R_V)]) [1] rfl
  refine ps_i (va_runV (As := [.int a2]) (rest := []) ⟨hx, hb, hml, hown, hw0⟩ (g_asked_F l dC dI hdo hra cR df dn (fr) a2 (by first | assumption | decide | omega)) (cwV 1 hw0 (gd_Vm wm_452 wm_453 wm_454 wm_315 wm_455) rfl rfl rfl (by decide +kernel) ⟨by decide +kernel, by decide +kernel⟩) (prV_R hPc hKc hN (va_recv hKc hPc (ci := 5) (q0 := 0) rfl rfl)) rfl rfl hl.1 rfl (lv_room (Nat.le_of_ble_eq_true rfl)) d_K_revision_27 ⟨by decide +kernel, by decide +kernel⟩) (fun r_3 hr_3 => ?_)
  obtain rfl : r_3 = 0 := hr_3
  refine lv_if_eq (tgt := 37) hx hb d_K_revision_30 (by decide) (fun _ => ?_) (fun h9 => absurd h9 (by decide +kernel))
  refine lv_iconst (v := 0) hx hb d_K_revision_37 (by decide) ?_
  refine lv_istore (lv' := [(6, .int 0), (5, .null), (4, .ref hdo), (0, .ref h0), (1, .int a1), (2, .int a2), (3, .int a3)]) hx hb d_K_revision_38 hl (by decide) rfl (fun ls hl => ?_)
  refine lv_aloadN hx hb d_K_revision_40 (lv_at hl 1 rfl) ?_
  refine lv_ifnullN (tgt := 59) hx hb d_K_revision_42 (by decide) ?_
  have hP9 := hP.sub (ws' := [(h0, .inr (0, [.ref hd, v_buffer, v_fetched, v_compared, v_maker, v_writer, .ref hp, .int i_madeDocuments, .int i_fetchedSteps])), (hp, .inr (4, [.int 0, .int p_i_going, .int p_i_writesLeft])), (hd, .inl (cD, 8, .inr (.inr (.inr (.inr (fD)))))), (hdo, .inr (5, [.ref hra, .int (nI df), .int (nI dn)])), (hra, .inl (cR, 64, .inr (.inr (.inr (.inr (fr))))))]) [0, 1, 2, 3, 4] rfl
  have hD9 := hD.sub (ws' := [(h0, .inr (0, [.ref hd, v_buffer, v_fetched, v_compared, v_maker, v_writer, .ref hp, .int i_madeDocuments, .int i_fetchedSteps])), (hp, .inr (4, [.int 0, .int p_i_going, .int p_i_writesLeft])), (hd, .inl (cD, 8, .inr (.inr (.inr (.inr (fD)))))), (hdo, .inr (5, [.ref hra, .int (nI df), .int (nI dn)])), (hra, .inl (cR, 64, .inr (.inr (.inr (.inr (fr))))))]) [0, 1, 2, 3, 4] (by decide) rfl
  have hK9 := hK.sub (tys' := [(cD, .object R_D), (cR, .object R_V)]) [0, 1] rfl
  have tw_at : ∀ w ∈ vx_at0 "TextKeeper" 142 "java/util/NoSuchElementException" ["java/lang/RuntimeException", "java/lang/Exception"], w.before _ s = true := vx_hat (fun w h => hw0 w (twN_1 w h)) twN_2 (fun w h => va_Nw.use (nw0_tab w h) (hN.1 w h))
  exact vx_throw0 (names := ["java/lang/RuntimeException", "java/lang/Exception"]) (ik := 140) (ic := 142) (A := A) hx hb hl9 hown (by decide +kernel) (by decide +kernel) (hw0 (.classLink "TextKeeper" 140 "java/util/NoSuchElementException") wm_54) (hw0 (.initialized "java/util/NoSuchElementException") wm_4) tw_at twN_g hTwA.1 hTwA.2 hS (by rw [hml]; exact hl.1) d_K_revision_59 d_K_revision_62 d_K_revision_63 d_K_revision_66 (fun x hx => (htab x hx).elim) (by decide +kernel) (by decide +kernel) (by decide +kernel) (by decide +kernel) hlocks (fun t hvm hz hk => ⟨(), trivial, ⟨rfl, hP9.kept (fun k q hq => hk _ ((hP9 k q hq).lt)), va_K.moved hvm hK9, hD9⟩, Nat.le_trans hS.1 hz, fun q h hn => (hk q (Nat.lt_of_lt_of_le h hS.1)).trans (hS.2.1 q h hn)⟩) hS.2.2 (by decide +kernel) (by decide +kernel)
set_option maxHeartbeats 4000000 in
set_option maxRecDepth 100000 in
theorem x_rev_F (l : Launch) (hl9 : l.stackTraces = false) (dC : Nat → ClassId) (dI : Nat → Nat → Nat) (sz : Nat) (h0 : Nat) (v_buffer : Value) (v_fetched : Value) (v_compared : Value) (v_maker : Value) (v_writer : Value) (i_madeDocuments : Int32) (i_fetchedSteps : Int32) (hp : Nat) (p_i_going : Int32) (p_i_writesLeft : Int32) (hd : Nat) (cD : ClassId) (fD : Nat → Option Nat) (hdo : Nat) (hra : Nat) (cR : ClassId) (df : Nat) (dn : Nat) (fr : Nat → Option Nat) (hv : Nat) (hpi : Nat) (cB : ClassId) (np : Nat) (fp : Nat → Int32) (au : Int32) (sm : Int32) (a1 : Int32) (a2 : Int32) (a3 : Int32) (hdS : atN 8 fD a1 = some hdo) (hdn : dn ≤ 64) (hna : a2 < nI df ∨ nI dn ≤ a2) (hkS : atN dn fr a2 = some hv) (hw0x : ¬ a3 = 0) (hw2x : ¬ a3 = 2) : vx_Met l y_K_revision k_K_revision ({ frames := 6, cells := 1, slots := 6, locals := 85 } : Room) (va_Pc [.ref h0, .int a1, .int a2, .int a3] (fun U => pc_E (dC, dI) [(h0, .inr (0, [.ref hd, v_buffer, v_fetched, v_compared, v_maker, v_writer, .ref hp, .int i_madeDocuments, .int i_fetchedSteps])), (hp, .inr (4, [.int 0, .int p_i_going, .int p_i_writesLeft])), (hd, .inl (cD, 8, .inr (.inr (.inr (.inr (fD)))))), (hdo, .inr (5, [.ref hra, .int (nI df), .int (nI dn)])), (hra, .inl (cR, 64, .inr (.inr (.inr (.inr (fr)))))), (hv, .inr (6, [.ref hpi, .int au, .int sm])), (hpi, .inl (cB, np, .inl (fp)))] [(cD, .object R_D), (cR, .object R_V), (cB, .byte)] sz U ∧ tw_ok U)) (va_Qi (fun (_ : Int32) (_ : Unit) => False) (fun _ _ => True) (va_A [(h0, .inr (0, [.ref hd, v_buffer, v_fetched, v_compared, v_maker, v_writer, .ref hp, .int i_madeDocuments, .int i_fetchedSteps])), (hp, .inr (4, [.int 0, .int p_i_going, .int p_i_writesLeft])), (hd, .inl (cD, 8, .inr (.inr (.inr (.inr (fD)))))), (hdo, .inr (5, [.ref hra, .int (nI df), .int (nI dn)])), (hra, .inl (cR, 64, .inr (.inr (.inr (.inr (fr)))))), (hv, .inr (6, [.ref hpi, .int au, .int sm])), (hpi, .inl (cB, np, .inl (fp)))] sz)) (vx_X (fun _ : Unit => True) (fun E _ t => E = "java/util/NoSuchElementException" ∧ at_E (dC, dI) (va_A [(h0, .inr (0, [.ref hd, v_buffer, v_fetched, v_compared, v_maker, v_writer, .ref hp, .int i_madeDocuments, .int i_fetchedSteps])), (hp, .inr (4, [.int 0, .int p_i_going, .int p_i_writesLeft])), (hd, .inl (cD, 8, .inr (.inr (.inr (.inr (fD)))))), (hdo, .inr (5, [.ref hra, .int (nI df), .int (nI dn)])), (hra, .inl (cR, 64, .inr (.inr (.inr (.inr (fr)))))), (hv, .inr (6, [.ref hpi, .int au, .int sm])), (hpi, .inl (cB, np, .inl (fp)))] sz) [(h0, .inr (0, [.ref hd, v_buffer, v_fetched, v_compared, v_maker, v_writer, .ref hp, .int i_madeDocuments, .int i_fetchedSteps])), (hp, .inr (4, [.int 0, .int p_i_going, .int p_i_writesLeft])), (hd, .inl (cD, 8, .inr (.inr (.inr (.inr (fD)))))), (hdo, .inr (5, [.ref hra, .int (nI df), .int (nI dn)])), (hra, .inl (cR, 64, .inr (.inr (.inr (.inr (fr)))))), (hv, .inr (6, [.ref hpi, .int au, .int sm])), (hpi, .inl (cB, np, .inl (fp)))] [(cD, .object R_D), (cR, .object R_V), (cB, .byte)] t) (va_A [(h0, .inr (0, [.ref hd, v_buffer, v_fetched, v_compared, v_maker, v_writer, .ref hp, .int i_madeDocuments, .int i_fetchedSteps])), (hp, .inr (4, [.int 0, .int p_i_going, .int p_i_writesLeft])), (hd, .inl (cD, 8, .inr (.inr (.inr (.inr (fD)))))), (hdo, .inr (5, [.ref hra, .int (nI df), .int (nI dn)])), (hra, .inl (cR, 64, .inr (.inr (.inr (.inr (fr)))))), (hv, .inr (6, [.ref hpi, .int au, .int sm])), (hpi, .inl (cB, np, .inl (fp)))] sz)) 1 6 (va_A [(h0, .inr (0, [.ref hd, v_buffer, v_fetched, v_compared, v_maker, v_writer, .ref hp, .int i_madeDocuments, .int i_fetchedSteps])), (hp, .inr (4, [.int 0, .int p_i_going, .int p_i_writesLeft])), (hd, .inl (cD, 8, .inr (.inr (.inr (.inr (fD)))))), (hdo, .inr (5, [.ref hra, .int (nI df), .int (nI dn)])), (hra, .inl (cR, 64, .inr (.inr (.inr (.inr (fr)))))), (hv, .inr (6, [.ref hpi, .int au, .int sm])), (hpi, .inl (cB, np, .inl (fp)))] sz) := by
  refine vx_ofW (cc := prog_1_method_12_code) (maxL := 7) (ret := (some .int)) (by decide) rfl ?_
  intro p e s m args below meth c s₁ B hml htab hv
  obtain ⟨rfl, ⟨hsz, hP, hK, hD0, hN⟩, hTw⟩ := hv
  have hx := B.exec
  have hb := B.bytes
  have hr := B.returns
  have hts := atoms_spec (ws := k_K_revision) B.pre
  have hw0 : ∀ w ∈ w0, w.before _ s = true := fun w h => hts w (List.mem_cons_of_mem _ h)
  have hown : s.vm.findClass R_K = some m.cls := findClass_of_methodNamed B.named
  have hlocks := B.notSynchronized
  subst hsz
  have hD := hD0.self (sz := s.heap.size)
  have hTwA := tw_A hTw hP
  generalize hAe : va_A [(h0, .inr (0, [.ref hd, v_buffer, v_fetched, v_compared, v_maker, v_writer, .ref hp, .int i_madeDocuments, .int i_fetchedSteps])), (hp, .inr (4, [.int 0, .int p_i_going, .int p_i_writesLeft])), (hd, .inl (cD, 8, .inr (.inr (.inr (.inr (fD)))))), (hdo, .inr (5, [.ref hra, .int (nI df), .int (nI dn)])), (hra, .inl (cR, 64, .inr (.inr (.inr (.inr (fr)))))), (hv, .inr (6, [.ref hpi, .int au, .int sm])), (hpi, .inl (cB, np, .inl (fp)))] s.heap.size = A at hD hTwA ⊢
  have hA : ∀ q : Nat, s.heap.size ≤ q → A q := fun q h => by rw [← hAe]; exact Or.inr h
  have hS : va_S A s.heap s.heap [] := va_S.rf
  have hP : va_P (dC, dI) vwCl [(h0, .inr (0, [.ref hd, v_buffer, v_fetched, v_compared, v_maker, v_writer, .ref hp, .int i_madeDocuments, .int i_fetchedSteps])), (hp, .inr (4, [.int 0, .int p_i_going, .int p_i_writesLeft])), (hd, .inl (cD, 8, .inr (.inr (.inr (.inr (fD)))))), (hdo, .inr (5, [.ref hra, .int (nI df), .int (nI dn)])), (hra, .inl (cR, 64, .inr (.inr (.inr (.inr (fr)))))), (hv, .inr (6, [.ref hpi, .int au, .int sm])), (hpi, .inl (cB, np, .inl (fp)))] s.heap := hP
  have hl := lv_entry ([.ref h0, .int a1, .int a2, .int a3]) (n := 7) (Nat.le_of_ble_eq_true rfl)
  rw [lg_entry_eq]
  generalize (lg_sl ([.ref h0, .int a1, .int a2, .int a3]) ++ List.replicate (7 - (lg_sl ([.ref h0, .int a1, .int a2, .int a3])).length) Slot.unset).toArray = ls at hl ⊢
  have hl : lv_has ls 7 [(0, .ref h0), (1, .int a1), (2, .int a2), (3, .int a3)] := hl
  refine lv_aload_n hx hb d_K_revision_0 rfl (lv_at hl 0 rfl) ?_
  have hPc := hP.sub (ws' := [(h0, .inr (0, [.ref hd, v_buffer, v_fetched, v_compared, v_maker, v_writer, .ref hp, .int i_madeDocuments, .int i_fetchedSteps])), (hp, .inr (4, [.int 0, .int p_i_going, .int p_i_writesLeft]))]) [0, 1] rfl
  have hKc := hK.sub (tys' := []) [] rfl
  refine ps_v (va_runV (As := []) (rest := []) ⟨hx, hb, hml, hown, hw0⟩ (g_needPower l dC dI h0 (.ref hd) v_buffer v_fetched v_compared v_maker v_writer i_madeDocuments i_fetchedSteps hp p_i_going p_i_writesLeft) (cwV 0 hw0 (gd_Vm wm_404 wm_405 wm_406 wm_308 wm_407) rfl rfl rfl (by decide +kernel) ⟨by decide +kernel, by decide +kernel⟩) (prV_R hPc hKc hN (va_recv hKc hPc (ci := 0) (q0 := 0) rfl rfl)) rfl rfl hl.1 rfl (lv_room (Nat.le_of_ble_eq_true rfl)) d_K_revision_1 ⟨by decide +kernel, by decide +kernel⟩) ?_
  refine lv_aload_n hx hb d_K_revision_4 rfl (lv_at hl 0 rfl) ?_
  refine lv_iload_n hx hb d_K_revision_5 rfl (lv_at hl 1 rfl) ?_
  have hPc := hP.sub (ws' := [(h0, .inr (0, [.ref hd, v_buffer, v_fetched, v_compared, v_maker, v_writer, .ref hp, .int i_madeDocuments, .int i_fetchedSteps])), (hd, .inl (cD, 8, .inr (.inr (.inr (.inr ((fD)))))))]) [0, 2] rfl
  have hKc := hK.sub (tys' := [(cD, .object R_D)]) [0] rfl
  refine ps_q (va_runV (As := [.int a1]) (rest := []) ⟨hx, hb, hml, hown, hw0⟩ (g_docAt_S l dC dI h0 v_buffer v_fetched v_compared v_maker v_writer (.ref hp) i_madeDocuments i_fetchedSteps hd cD (fD) a1 hdo (by first | assumption | decide | omega)) (cwV 1 hw0 (gd_Vm wm_399 wm_400 wm_401 wm_308 wm_402) rfl rfl rfl (by decide +kernel) ⟨by decide +kernel, by decide +kernel⟩) (prV_R hPc hKc hN (va_recv hKc hPc (ci := 0) (q0 := 0) rfl rfl)) rfl rfl hl.1 rfl (lv_room (Nat.le_of_ble_eq_true rfl)) d_K_revision_6 ⟨by decide +kernel, by decide +kernel⟩) (fun r_1 hr_1 => ?_)
  obtain rfl : r_1 = some hdo := hr_1
  refine W.eq (g2 := F0 m 9 ls [.ref hdo]) rfl ?_
  refine lv_astore (lv' := [(4, .ref hdo), (0, .ref h0), (1, .int a1), (2, .int a2), (3, .int a3)]) hx hb d_K_revision_9 hl (by decide) rfl (fun ls hl => ?_)
  refine lv_aload_n hx hb d_K_revision_11 rfl (lv_at hl 1 rfl) ?_
  refine lv_iload_n hx hb d_K_revision_12 rfl (lv_at hl 2 rfl) ?_
  refine lv_iload_n hx hb d_K_revision_13 rfl (lv_at hl 3 rfl) ?_
  have hPc := hP.sub (ws' := [(h0, .inr (0, [.ref hd, v_buffer, v_fetched, v_compared, v_maker, v_writer, .ref hp, .int i_madeDocuments, .int i_fetchedSteps])), (hd, .inl (cD, 8, .inr (.inr (.inr (.inr ((fD))))))), (hdo, .inr (5, [.ref hra, .int (nI df), .int (nI dn)])), (hra, .inl (cR, 64, .inr (.inr (.inr (.inr ((fr)))))))]) [0, 2, 3, 4] rfl
  have hKc := hK.sub (tys' := [(cD, .object R_D), (cR, .object R_V)]) [0, 1] rfl
  refine ps_q (va_runV (As := [.int a1, .int a2]) (rest := []) ⟨hx, hb, hml, hown, hw0⟩ (g_keptR_S l dC dI h0 v_buffer v_fetched v_compared v_maker v_writer (.ref hp) i_madeDocuments i_fetchedSteps hd cD (fD) _ hra cR df dn (fr) a1 a2 hv (by first | assumption | decide | omega) (by first | assumption | decide | omega) (by first | assumption | decide | omega)) (cwV 2 hw0 (gd_Vm wm_427 wm_428 wm_429 wm_308 wm_430) rfl rfl rfl (by decide +kernel) ⟨by decide +kernel, by decide +kernel⟩) (prV_R hPc hKc hN (va_recv hKc hPc (ci := 0) (q0 := 0) rfl rfl)) rfl rfl hl.1 rfl (lv_room (Nat.le_of_ble_eq_true rfl)) d_K_revision_14 ⟨by decide +kernel, by decide +kernel⟩) (fun r_2 hr_2 => ?_)
  obtain rfl : r_2 = some hv := hr_2
  refine W.eq (g2 := F0 m 17 ls [.ref hv]) rfl ?_
  refine lv_astore (lv' := [(5, .ref hv), (4, .ref hdo), (0, .ref h0), (1, .int a1), (2, .int a2), (3, .int a3)]) hx hb d_K_revision_17 hl (by decide) rfl (fun ls hl => ?_)
  refine lv_aload hx hb d_K_revision_19 (lv_at hl 1 rfl) ?_
  refine lv_ifnull hx hb d_K_revision_21 ?_
  refine lv_aload hx hb d_K_revision_24 (lv_at hl 1 rfl) ?_
  refine lv_iload_n hx hb d_K_revision_26 rfl (lv_at hl 4 rfl) ?_
  have hPc := hP.sub (ws' := [(hdo, .inr (5, [.ref hra, .int (nI df), .int (nI dn)])), (hra, .inl (cR, 64, .inr (.inr (.inr (.inr ((fr)))))))]) [3, 4] rfl
  have hKc := hK.sub (tys' := [(cR, .object R_V)]) [1] rfl
  refine ps_i (va_runV (As := [.int a2]) (rest := []) ⟨hx, hb, hml, hown, hw0⟩ (g_asked_F l dC dI hdo hra cR df dn (fr) a2 (by first | assumption | decide | omega)) (cwV 1 hw0 (gd_Vm wm_452 wm_453 wm_454 wm_315 wm_455) rfl rfl rfl (by decide +kernel) ⟨by decide +kernel, by decide +kernel⟩) (prV_R hPc hKc hN (va_recv hKc hPc (ci := 5) (q0 := 0) rfl rfl)) rfl rfl hl.1 rfl (lv_room (Nat.le_of_ble_eq_true rfl)) d_K_revision_27 ⟨by decide +kernel, by decide +kernel⟩) (fun r_3 hr_3 => ?_)
  obtain rfl : r_3 = 0 := hr_3
  refine lv_if_eq (tgt := 37) hx hb d_K_revision_30 (by decide) (fun _ => ?_) (fun h9 => absurd h9 (by decide +kernel))
  refine lv_iconst (v := 0) hx hb d_K_revision_37 (by decide) ?_
  refine lv_istore (lv' := [(6, .int 0), (5, .ref hv), (4, .ref hdo), (0, .ref h0), (1, .int a1), (2, .int a2), (3, .int a3)]) hx hb d_K_revision_38 hl (by decide) rfl (fun ls hl => ?_)
  refine lv_aload hx hb d_K_revision_40 (lv_at hl 1 rfl) ?_
  refine lv_ifnull hx hb d_K_revision_42 ?_
  refine lv_iload hx hb d_K_revision_45 (lv_at hl 0 rfl) ?_
  refine lv_if_ne (tgt := 67) hx hb d_K_revision_47 (by decide) (fun h9 => absurd h9 (by decide +kernel)) (fun _ => ?_)
  refine lv_iload_n hx hb d_K_revision_50 rfl (lv_at hl 6 rfl) ?_
  refine lv_if_eq (tgt := 67) hx hb d_K_revision_51 (by decide) (fun c_4 => absurd c_4 hw0x) (fun c_4 => ?_)
  refine lv_iload_n hx hb d_K_revision_54 rfl (lv_at hl 6 rfl) ?_
  refine lv_iconst (v := 2) hx hb d_K_revision_55 (by decide) ?_
  refine lv_icmp_eq (tgt := 67) hx hb d_K_revision_56 (by decide) (fun c_5 => absurd c_5 hw2x) (fun c_5 => ?_)
  have hP9 := hP.sub (ws' := [(h0, .inr (0, [.ref hd, v_buffer, v_fetched, v_compared, v_maker, v_writer, .ref hp, .int i_madeDocuments, .int i_fetchedSteps])), (hp, .inr (4, [.int 0, .int p_i_going, .int p_i_writesLeft])), (hd, .inl (cD, 8, .inr (.inr (.inr (.inr (fD)))))), (hdo, .inr (5, [.ref hra, .int (nI df), .int (nI dn)])), (hra, .inl (cR, 64, .inr (.inr (.inr (.inr (fr)))))), (hv, .inr (6, [.ref hpi, .int au, .int sm])), (hpi, .inl (cB, np, .inl (fp)))]) [0, 1, 2, 3, 4, 5, 6] rfl
  have hD9 := hD.sub (ws' := [(h0, .inr (0, [.ref hd, v_buffer, v_fetched, v_compared, v_maker, v_writer, .ref hp, .int i_madeDocuments, .int i_fetchedSteps])), (hp, .inr (4, [.int 0, .int p_i_going, .int p_i_writesLeft])), (hd, .inl (cD, 8, .inr (.inr (.inr (.inr (fD)))))), (hdo, .inr (5, [.ref hra, .int (nI df), .int (nI dn)])), (hra, .inl (cR, 64, .inr (.inr (.inr (.inr (fr)))))), (hv, .inr (6, [.ref hpi, .int au, .int sm])), (hpi, .inl (cB, np, .inl (fp)))]) [0, 1, 2, 3, 4, 5, 6] (by decide) rfl
  have hK9 := hK.sub (tys' := [(cD, .object R_D), (cR, .object R_V), (cB, .byte)]) [0, 1, 2] rfl
  have tw_at : ∀ w ∈ vx_at0 "TextKeeper" 142 "java/util/NoSuchElementException" ["java/lang/RuntimeException", "java/lang/Exception"], w.before _ s = true := vx_hat (fun w h => hw0 w (twN_1 w h)) twN_2 (fun w h => va_Nw.use (nw0_tab w h) (hN.1 w h))
  exact vx_throw0 (names := ["java/lang/RuntimeException", "java/lang/Exception"]) (ik := 140) (ic := 142) (A := A) hx hb hl9 hown (by decide +kernel) (by decide +kernel) (hw0 (.classLink "TextKeeper" 140 "java/util/NoSuchElementException") wm_54) (hw0 (.initialized "java/util/NoSuchElementException") wm_4) tw_at twN_g hTwA.1 hTwA.2 hS (by rw [hml]; exact hl.1) d_K_revision_59 d_K_revision_62 d_K_revision_63 d_K_revision_66 (fun x hx => (htab x hx).elim) (by decide +kernel) (by decide +kernel) (by decide +kernel) (by decide +kernel) hlocks (fun t hvm hz hk => ⟨(), trivial, ⟨rfl, hP9.kept (fun k q hq => hk _ ((hP9 k q hq).lt)), va_K.moved hvm hK9, hD9⟩, Nat.le_trans hS.1 hz, fun q h hn => (hk q (Nat.lt_of_lt_of_le h hS.1)).trans (hS.2.1 q h hn)⟩) hS.2.2 (by decide +kernel) (by decide +kernel)
set_option maxHeartbeats 4000000 in
set_option maxRecDepth 100000 in
theorem g_rev_F0 (l : Launch) (dC : Nat → ClassId) (dI : Nat → Nat → Nat) (h0 : Nat) (v_buffer : Value) (v_fetched : Value) (v_compared : Value) (v_maker : Value) (v_writer : Value) (i_madeDocuments : Int32) (i_fetchedSteps : Int32) (hp : Nat) (p_i_going : Int32) (p_i_writesLeft : Int32) (hd : Nat) (cD : ClassId) (fD : Nat → Option Nat) (hdo : Nat) (hra : Nat) (cR : ClassId) (df : Nat) (dn : Nat) (fr : Nat → Option Nat) (hv : Nat) (hpi : Nat) (cB : ClassId) (np : Nat) (fp : Nat → Int32) (au : Int32) (sm : Int32) (a1 : Int32) (a2 : Int32) (hdS : atN 8 fD a1 = some hdo) (hdn : dn ≤ 64) (hna : a2 < nI df ∨ nI dn ≤ a2) (hkS : atN dn fr a2 = some hv) : Met l y_K_revision k_K_revision ({ frames := 2, cells := 0, slots := 0, locals := 44 } : Room) (va_Pc [.ref h0, .int a1, .int a2, .int 0] (pc_R (dC, dI) [(h0, .inr (0, [.ref hd, v_buffer, v_fetched, v_compared, v_maker, v_writer, .ref hp, .int i_madeDocuments, .int i_fetchedSteps])), (hp, .inr (4, [.int 0, .int p_i_going, .int p_i_writesLeft])), (hd, .inl (cD, 8, .inr (.inr (.inr (.inr (fD)))))), (hdo, .inr (5, [.ref hra, .int (nI df), .int (nI dn)])), (hra, .inl (cR, 64, .inr (.inr (.inr (.inr (fr)))))), (hv, .inr (6, [.ref hpi, .int au, .int sm])), (hpi, .inl (cB, np, .inl (fp)))] [(cD, .object R_D), (cR, .object R_V), (cB, .byte)])) (vp_Si (fun r => r = nI np)) 0 0 (fun _ => False) := by
  refine Met.ofW (cc := prog_1_method_12_code) (maxL := 7) (ret := (some .int)) (by decide) rfl ?_
  intro p e s m args below meth c s₁ B hml hv
  obtain ⟨rfl, hP, hK, hN⟩ := hv
  have hx := B.exec
  have hb := B.bytes
  have hr := B.returns
  have hts := atoms_spec (ws := k_K_revision) B.pre
  have hw0 : ∀ w ∈ w0, w.before _ s = true := fun w h => hts w (List.mem_cons_of_mem _ h)
  have hown : s.vm.findClass R_K = some m.cls := findClass_of_methodNamed B.named
  have hlocks := B.notSynchronized
  have hP : va_P (dC, dI) vwCl [(h0, .inr (0, [.ref hd, v_buffer, v_fetched, v_compared, v_maker, v_writer, .ref hp, .int i_madeDocuments, .int i_fetchedSteps])), (hp, .inr (4, [.int 0, .int p_i_going, .int p_i_writesLeft])), (hd, .inl (cD, 8, .inr (.inr (.inr (.inr (fD)))))), (hdo, .inr (5, [.ref hra, .int (nI df), .int (nI dn)])), (hra, .inl (cR, 64, .inr (.inr (.inr (.inr (fr)))))), (hv, .inr (6, [.ref hpi, .int au, .int sm])), (hpi, .inl (cB, np, .inl (fp)))] s.heap := hP
  have hl := lv_entry ([.ref h0, .int a1, .int a2, .int 0]) (n := 7) (Nat.le_of_ble_eq_true rfl)
  rw [lg_entry_eq]
  generalize (lg_sl ([.ref h0, .int a1, .int a2, .int 0]) ++ List.replicate (7 - (lg_sl ([.ref h0, .int a1, .int a2, .int 0])).length) Slot.unset).toArray = ls at hl ⊢
  have hl : lv_has ls 7 [(0, .ref h0), (1, .int a1), (2, .int a2), (3, .int 0)] := hl
  refine lv_aload_n hx hb d_K_revision_0 rfl (lv_at hl 0 rfl) ?_
  have hPc := hP.sub (ws' := [(h0, .inr (0, [.ref hd, v_buffer, v_fetched, v_compared, v_maker, v_writer, .ref hp, .int i_madeDocuments, .int i_fetchedSteps])), (hp, .inr (4, [.int 0, .int p_i_going, .int p_i_writesLeft]))]) [0, 1] rfl
  have hKc := hK.sub (tys' := []) [] rfl
  refine ps_v (va_runV (As := []) (rest := []) ⟨hx, hb, hml, hown, hw0⟩ (g_needPower l dC dI h0 (.ref hd) v_buffer v_fetched v_compared v_maker v_writer i_madeDocuments i_fetchedSteps hp p_i_going p_i_writesLeft) (cwV 0 hw0 (gd_Vm wm_404 wm_405 wm_406 wm_308 wm_407) rfl rfl rfl (by decide +kernel) ⟨by decide +kernel, by decide +kernel⟩) (prV_R hPc hKc hN (va_recv hKc hPc (ci := 0) (q0 := 0) rfl rfl)) rfl rfl hl.1 rfl (lv_room (Nat.le_of_ble_eq_true rfl)) d_K_revision_1 ⟨by decide +kernel, by decide +kernel⟩) ?_
  refine lv_aload_n hx hb d_K_revision_4 rfl (lv_at hl 0 rfl) ?_
  refine lv_iload_n hx hb d_K_revision_5 rfl (lv_at hl 1 rfl) ?_
  have hPc := hP.sub (ws' := [(h0, .inr (0, [.ref hd, v_buffer, v_fetched, v_compared, v_maker, v_writer, .ref hp, .int i_madeDocuments, .int i_fetchedSteps])), (hd, .inl (cD, 8, .inr (.inr (.inr (.inr ((fD)))))))]) [0, 2] rfl
  have hKc := hK.sub (tys' := [(cD, .object R_D)]) [0] rfl
  refine ps_q (va_runV (As := [.int a1]) (rest := []) ⟨hx, hb, hml, hown, hw0⟩ (g_docAt_S l dC dI h0 v_buffer v_fetched v_compared v_maker v_writer (.ref hp) i_madeDocuments i_fetchedSteps hd cD (fD) a1 hdo (by first | assumption | decide | omega)) (cwV 1 hw0 (gd_Vm wm_399 wm_400 wm_401 wm_308 wm_402) rfl rfl rfl (by decide +kernel) ⟨by decide +kernel, by decide +kernel⟩) (prV_R hPc hKc hN (va_recv hKc hPc (ci := 0) (q0 := 0) rfl rfl)) rfl rfl hl.1 rfl (lv_room (Nat.le_of_ble_eq_true rfl)) d_K_revision_6 ⟨by decide +kernel, by decide +kernel⟩) (fun r_1 hr_1 => ?_)
  obtain rfl : r_1 = some hdo := hr_1
  refine W.eq (g2 := F0 m 9 ls [.ref hdo]) rfl ?_
  refine lv_astore (lv' := [(4, .ref hdo), (0, .ref h0), (1, .int a1), (2, .int a2), (3, .int 0)]) hx hb d_K_revision_9 hl (by decide) rfl (fun ls hl => ?_)
  refine lv_aload_n hx hb d_K_revision_11 rfl (lv_at hl 1 rfl) ?_
  refine lv_iload_n hx hb d_K_revision_12 rfl (lv_at hl 2 rfl) ?_
  refine lv_iload_n hx hb d_K_revision_13 rfl (lv_at hl 3 rfl) ?_
  have hPc := hP.sub (ws' := [(h0, .inr (0, [.ref hd, v_buffer, v_fetched, v_compared, v_maker, v_writer, .ref hp, .int i_madeDocuments, .int i_fetchedSteps])), (hd, .inl (cD, 8, .inr (.inr (.inr (.inr ((fD))))))), (hdo, .inr (5, [.ref hra, .int (nI df), .int (nI dn)])), (hra, .inl (cR, 64, .inr (.inr (.inr (.inr ((fr)))))))]) [0, 2, 3, 4] rfl
  have hKc := hK.sub (tys' := [(cD, .object R_D), (cR, .object R_V)]) [0, 1] rfl
  refine ps_q (va_runV (As := [.int a1, .int a2]) (rest := []) ⟨hx, hb, hml, hown, hw0⟩ (g_keptR_S l dC dI h0 v_buffer v_fetched v_compared v_maker v_writer (.ref hp) i_madeDocuments i_fetchedSteps hd cD (fD) _ hra cR df dn (fr) a1 a2 hv (by first | assumption | decide | omega) (by first | assumption | decide | omega) (by first | assumption | decide | omega)) (cwV 2 hw0 (gd_Vm wm_427 wm_428 wm_429 wm_308 wm_430) rfl rfl rfl (by decide +kernel) ⟨by decide +kernel, by decide +kernel⟩) (prV_R hPc hKc hN (va_recv hKc hPc (ci := 0) (q0 := 0) rfl rfl)) rfl rfl hl.1 rfl (lv_room (Nat.le_of_ble_eq_true rfl)) d_K_revision_14 ⟨by decide +kernel, by decide +kernel⟩) (fun r_2 hr_2 => ?_)
  obtain rfl : r_2 = some hv := hr_2
  refine W.eq (g2 := F0 m 17 ls [.ref hv]) rfl ?_
  refine lv_astore (lv' := [(5, .ref hv), (4, .ref hdo), (0, .ref h0), (1, .int a1), (2, .int a2), (3, .int 0)]) hx hb d_K_revision_17 hl (by decide) rfl (fun ls hl => ?_)
  refine lv_aload hx hb d_K_revision_19 (lv_at hl 1 rfl) ?_
  refine lv_ifnull hx hb d_K_revision_21 ?_
  refine lv_aload hx hb d_K_revision_24 (lv_at hl 1 rfl) ?_
  refine lv_iload_n hx hb d_K_revision_26 rfl (lv_at hl 4 rfl) ?_
  have hPc := hP.sub (ws' := [(hdo, .inr (5, [.ref hra, .int (nI df), .int (nI dn)])), (hra, .inl (cR, 64, .inr (.inr (.inr (.inr ((fr)))))))]) [3, 4] rfl
  have hKc := hK.sub (tys' := [(cR, .object R_V)]) [1] rfl
  refine ps_i (va_runV (As := [.int a2]) (rest := []) ⟨hx, hb, hml, hown, hw0⟩ (g_asked_F l dC dI hdo hra cR df dn (fr) a2 (by first | assumption | decide | omega)) (cwV 1 hw0 (gd_Vm wm_452 wm_453 wm_454 wm_315 wm_455) rfl rfl rfl (by decide +kernel) ⟨by decide +kernel, by decide +kernel⟩) (prV_R hPc hKc hN (va_recv hKc hPc (ci := 5) (q0 := 0) rfl rfl)) rfl rfl hl.1 rfl (lv_room (Nat.le_of_ble_eq_true rfl)) d_K_revision_27 ⟨by decide +kernel, by decide +kernel⟩) (fun r_3 hr_3 => ?_)
  obtain rfl : r_3 = 0 := hr_3
  refine lv_if_eq (tgt := 37) hx hb d_K_revision_30 (by decide) (fun _ => ?_) (fun h9 => absurd h9 (by decide +kernel))
  refine lv_iconst (v := 0) hx hb d_K_revision_37 (by decide) ?_
  refine lv_istore (lv' := [(6, .int 0), (5, .ref hv), (4, .ref hdo), (0, .ref h0), (1, .int a1), (2, .int a2), (3, .int 0)]) hx hb d_K_revision_38 hl (by decide) rfl (fun ls hl => ?_)
  refine lv_aload hx hb d_K_revision_40 (lv_at hl 1 rfl) ?_
  refine lv_ifnull hx hb d_K_revision_42 ?_
  refine lv_iload hx hb d_K_revision_45 (lv_at hl 0 rfl) ?_
  refine lv_if_ne (tgt := 67) hx hb d_K_revision_47 (by decide) (fun h9 => absurd h9 (by decide +kernel)) (fun _ => ?_)
  refine lv_iload_n hx hb d_K_revision_50 rfl (lv_at hl 6 rfl) ?_
  refine lv_if_eq (tgt := 67) hx hb d_K_revision_51 (by decide) (fun _ => ?_) (fun h9 => absurd h9 (by decide +kernel))
  refine lv_iload_n hx hb d_K_revision_67 rfl (lv_at hl 6 rfl) ?_
  refine lv_tableIn (tgt := 96) hx hb d_K_revision_68 (by decide +kernel) (by decide +kernel) rfl (by decide) ?_
  refine lv_aload hx hb d_K_revision_96 (lv_at hl 1 rfl) ?_
  refine va_getN (D := (dC, dI)) (ci := 6) (v := .ref hpi) (C := R_V) (T := F_V) (N := 3) hx hb hw0 in_V hown hK hP 5 rfl rfl 0 (by decide) (va_Nw.use rfl (hN.1 (.fieldLinkNest R_K 153 "TextKeeper$Revision" "piece" "[B" "TextKeeper") (List.mem_of_getElem? (i := 14) rfl))) (fun _ h9 => h9) rfl d_K_revision_98 ?_
  refine va_alen (v := nI np) hx hb hK hP 6 2 rfl rfl (rfl) d_K_revision_101 ?_
  exact W.iret (v := (nI np)) hx hb hr (fun t ht hW => ⟨(nI np), rfl, rfl, ht⟩) (fun q h => by cases h) d_K_revision_102
set_option maxHeartbeats 4000000 in
set_option maxRecDepth 100000 in
theorem g_rev_F2 (l : Launch) (dC : Nat → ClassId) (dI : Nat → Nat → Nat) (h0 : Nat) (v_buffer : Value) (v_fetched : Value) (v_compared : Value) (v_maker : Value) (v_writer : Value) (i_madeDocuments : Int32) (i_fetchedSteps : Int32) (hp : Nat) (p_i_going : Int32) (p_i_writesLeft : Int32) (hd : Nat) (cD : ClassId) (fD : Nat → Option Nat) (hdo : Nat) (hra : Nat) (cR : ClassId) (df : Nat) (dn : Nat) (fr : Nat → Option Nat) (hv : Nat) (hpi : Nat) (cB : ClassId) (np : Nat) (fp : Nat → Int32) (au : Int32) (sm : Int32) (a1 : Int32) (a2 : Int32) (hdS : atN 8 fD a1 = some hdo) (hdn : dn ≤ 64) (hna : a2 < nI df ∨ nI dn ≤ a2) (hkS : atN dn fr a2 = some hv) : Met l y_K_revision k_K_revision ({ frames := 2, cells := 0, slots := 0, locals := 44 } : Room) (va_Pc [.ref h0, .int a1, .int a2, .int 2] (pc_R (dC, dI) [(h0, .inr (0, [.ref hd, v_buffer, v_fetched, v_compared, v_maker, v_writer, .ref hp, .int i_madeDocuments, .int i_fetchedSteps])), (hp, .inr (4, [.int 0, .int p_i_going, .int p_i_writesLeft])), (hd, .inl (cD, 8, .inr (.inr (.inr (.inr (fD)))))), (hdo, .inr (5, [.ref hra, .int (nI df), .int (nI dn)])), (hra, .inl (cR, 64, .inr (.inr (.inr (.inr (fr)))))), (hv, .inr (6, [.ref hpi, .int au, .int sm])), (hpi, .inl (cB, np, .inl (fp)))] [(cD, .object R_D), (cR, .object R_V), (cB, .byte)])) (vp_Si (fun r => r = sm)) 0 0 (fun _ => False) := by
  refine Met.ofW (cc := prog_1_method_12_code) (maxL := 7) (ret := (some .int)) (by decide) rfl ?_
  intro p e s m args below meth c s₁ B hml hv
  obtain ⟨rfl, hP, hK, hN⟩ := hv
  have hx := B.exec
  have hb := B.bytes
  have hr := B.returns
  have hts := atoms_spec (ws := k_K_revision) B.pre
  have hw0 : ∀ w ∈ w0, w.before _ s = true := fun w h => hts w (List.mem_cons_of_mem _ h)
  have hown : s.vm.findClass R_K = some m.cls := findClass_of_methodNamed B.named
  have hlocks := B.notSynchronized
  have hP : va_P (dC, dI) vwCl [(h0, .inr (0, [.ref hd, v_buffer, v_fetched, v_compared, v_maker, v_writer, .ref hp, .int i_madeDocuments, .int i_fetchedSteps])), (hp, .inr (4, [.int 0, .int p_i_going, .int p_i_writesLeft])), (hd, .inl (cD, 8, .inr (.inr (.inr (.inr (fD)))))), (hdo, .inr (5, [.ref hra, .int (nI df), .int (nI dn)])), (hra, .inl (cR, 64, .inr (.inr (.inr (.inr (fr)))))), (hv, .inr (6, [.ref hpi, .int au, .int sm])), (hpi, .inl (cB, np, .inl (fp)))] s.heap := hP
  have hl := lv_entry ([.ref h0, .int a1, .int a2, .int 2]) (n := 7) (Nat.le_of_ble_eq_true rfl)
  rw [lg_entry_eq]
  generalize (lg_sl ([.ref h0, .int a1, .int a2, .int 2]) ++ List.replicate (7 - (lg_sl ([.ref h0, .int a1, .int a2, .int 2])).length) Slot.unset).toArray = ls at hl ⊢
  have hl : lv_has ls 7 [(0, .ref h0), (1, .int a1), (2, .int a2), (3, .int 2)] := hl
  refine lv_aload_n hx hb d_K_revision_0 rfl (lv_at hl 0 rfl) ?_
  have hPc := hP.sub (ws' := [(h0, .inr (0, [.ref hd, v_buffer, v_fetched, v_compared, v_maker, v_writer, .ref hp, .int i_madeDocuments, .int i_fetchedSteps])), (hp, .inr (4, [.int 0, .int p_i_going, .int p_i_writesLeft]))]) [0, 1] rfl
  have hKc := hK.sub (tys' := []) [] rfl
  refine ps_v (va_runV (As := []) (rest := []) ⟨hx, hb, hml, hown, hw0⟩ (g_needPower l dC dI h0 (.ref hd) v_buffer v_fetched v_compared v_maker v_writer i_madeDocuments i_fetchedSteps hp p_i_going p_i_writesLeft) (cwV 0 hw0 (gd_Vm wm_404 wm_405 wm_406 wm_308 wm_407) rfl rfl rfl (by decide +kernel) ⟨by decide +kernel, by decide +kernel⟩) (prV_R hPc hKc hN (va_recv hKc hPc (ci := 0) (q0 := 0) rfl rfl)) rfl rfl hl.1 rfl (lv_room (Nat.le_of_ble_eq_true rfl)) d_K_revision_1 ⟨by decide +kernel, by decide +kernel⟩) ?_
  refine lv_aload_n hx hb d_K_revision_4 rfl (lv_at hl 0 rfl) ?_
  refine lv_iload_n hx hb d_K_revision_5 rfl (lv_at hl 1 rfl) ?_
  have hPc := hP.sub (ws' := [(h0, .inr (0, [.ref hd, v_buffer, v_fetched, v_compared, v_maker, v_writer, .ref hp, .int i_madeDocuments, .int i_fetchedSteps])), (hd, .inl (cD, 8, .inr (.inr (.inr (.inr ((fD)))))))]) [0, 2] rfl
  have hKc := hK.sub (tys' := [(cD, .object R_D)]) [0] rfl
  refine ps_q (va_runV (As := [.int a1]) (rest := []) ⟨hx, hb, hml, hown, hw0⟩ (g_docAt_S l dC dI h0 v_buffer v_fetched v_compared v_maker v_writer (.ref hp) i_madeDocuments i_fetchedSteps hd cD (fD) a1 hdo (by first | assumption | decide | omega)) (cwV 1 hw0 (gd_Vm wm_399 wm_400 wm_401 wm_308 wm_402) rfl rfl rfl (by decide +kernel) ⟨by decide +kernel, by decide +kernel⟩) (prV_R hPc hKc hN (va_recv hKc hPc (ci := 0) (q0 := 0) rfl rfl)) rfl rfl hl.1 rfl (lv_room (Nat.le_of_ble_eq_true rfl)) d_K_revision_6 ⟨by decide +kernel, by decide +kernel⟩) (fun r_1 hr_1 => ?_)
  obtain rfl : r_1 = some hdo := hr_1
  refine W.eq (g2 := F0 m 9 ls [.ref hdo]) rfl ?_
  refine lv_astore (lv' := [(4, .ref hdo), (0, .ref h0), (1, .int a1), (2, .int a2), (3, .int 2)]) hx hb d_K_revision_9 hl (by decide) rfl (fun ls hl => ?_)
  refine lv_aload_n hx hb d_K_revision_11 rfl (lv_at hl 1 rfl) ?_
  refine lv_iload_n hx hb d_K_revision_12 rfl (lv_at hl 2 rfl) ?_
  refine lv_iload_n hx hb d_K_revision_13 rfl (lv_at hl 3 rfl) ?_
  have hPc := hP.sub (ws' := [(h0, .inr (0, [.ref hd, v_buffer, v_fetched, v_compared, v_maker, v_writer, .ref hp, .int i_madeDocuments, .int i_fetchedSteps])), (hd, .inl (cD, 8, .inr (.inr (.inr (.inr ((fD))))))), (hdo, .inr (5, [.ref hra, .int (nI df), .int (nI dn)])), (hra, .inl (cR, 64, .inr (.inr (.inr (.inr ((fr)))))))]) [0, 2, 3, 4] rfl
  have hKc := hK.sub (tys' := [(cD, .object R_D), (cR, .object R_V)]) [0, 1] rfl
  refine ps_q (va_runV (As := [.int a1, .int a2]) (rest := []) ⟨hx, hb, hml, hown, hw0⟩ (g_keptR_S l dC dI h0 v_buffer v_fetched v_compared v_maker v_writer (.ref hp) i_madeDocuments i_fetchedSteps hd cD (fD) _ hra cR df dn (fr) a1 a2 hv (by first | assumption | decide | omega) (by first | assumption | decide | omega) (by first | assumption | decide | omega)) (cwV 2 hw0 (gd_Vm wm_427 wm_428 wm_429 wm_308 wm_430) rfl rfl rfl (by decide +kernel) ⟨by decide +kernel, by decide +kernel⟩) (prV_R hPc hKc hN (va_recv hKc hPc (ci := 0) (q0 := 0) rfl rfl)) rfl rfl hl.1 rfl (lv_room (Nat.le_of_ble_eq_true rfl)) d_K_revision_14 ⟨by decide +kernel, by decide +kernel⟩) (fun r_2 hr_2 => ?_)
  obtain rfl : r_2 = some hv := hr_2
  refine W.eq (g2 := F0 m 17 ls [.ref hv]) rfl ?_
  refine lv_astore (lv' := [(5, .ref hv), (4, .ref hdo), (0, .ref h0), (1, .int a1), (2, .int a2), (3, .int 2)]) hx hb d_K_revision_17 hl (by decide) rfl (fun ls hl => ?_)
  refine lv_aload hx hb d_K_revision_19 (lv_at hl 1 rfl) ?_
  refine lv_ifnull hx hb d_K_revision_21 ?_
  refine lv_aload hx hb d_K_revision_24 (lv_at hl 1 rfl) ?_
  refine lv_iload_n hx hb d_K_revision_26 rfl (lv_at hl 4 rfl) ?_
  have hPc := hP.sub (ws' := [(hdo, .inr (5, [.ref hra, .int (nI df), .int (nI dn)])), (hra, .inl (cR, 64, .inr (.inr (.inr (.inr ((fr)))))))]) [3, 4] rfl
  have hKc := hK.sub (tys' := [(cR, .object R_V)]) [1] rfl
  refine ps_i (va_runV (As := [.int a2]) (rest := []) ⟨hx, hb, hml, hown, hw0⟩ (g_asked_F l dC dI hdo hra cR df dn (fr) a2 (by first | assumption | decide | omega)) (cwV 1 hw0 (gd_Vm wm_452 wm_453 wm_454 wm_315 wm_455) rfl rfl rfl (by decide +kernel) ⟨by decide +kernel, by decide +kernel⟩) (prV_R hPc hKc hN (va_recv hKc hPc (ci := 5) (q0 := 0) rfl rfl)) rfl rfl hl.1 rfl (lv_room (Nat.le_of_ble_eq_true rfl)) d_K_revision_27 ⟨by decide +kernel, by decide +kernel⟩) (fun r_3 hr_3 => ?_)
  obtain rfl : r_3 = 0 := hr_3
  refine lv_if_eq (tgt := 37) hx hb d_K_revision_30 (by decide) (fun _ => ?_) (fun h9 => absurd h9 (by decide +kernel))
  refine lv_iconst (v := 0) hx hb d_K_revision_37 (by decide) ?_
  refine lv_istore (lv' := [(6, .int 0), (5, .ref hv), (4, .ref hdo), (0, .ref h0), (1, .int a1), (2, .int a2), (3, .int 2)]) hx hb d_K_revision_38 hl (by decide) rfl (fun ls hl => ?_)
  refine lv_aload hx hb d_K_revision_40 (lv_at hl 1 rfl) ?_
  refine lv_ifnull hx hb d_K_revision_42 ?_
  refine lv_iload hx hb d_K_revision_45 (lv_at hl 0 rfl) ?_
  refine lv_if_ne (tgt := 67) hx hb d_K_revision_47 (by decide) (fun h9 => absurd h9 (by decide +kernel)) (fun _ => ?_)
  refine lv_iload_n hx hb d_K_revision_50 rfl (lv_at hl 6 rfl) ?_
  refine lv_if_eq (tgt := 67) hx hb d_K_revision_51 (by decide) (fun h9 => absurd h9 (by decide +kernel)) (fun _ => ?_)
  refine lv_iload_n hx hb d_K_revision_54 rfl (lv_at hl 6 rfl) ?_
  refine lv_iconst (v := 2) hx hb d_K_revision_55 (by decide) ?_
  refine lv_icmp_eq (tgt := 67) hx hb d_K_revision_56 (by decide) (fun _ => ?_) (fun h9 => absurd h9 (by decide +kernel))
  refine lv_iload_n hx hb d_K_revision_67 rfl (lv_at hl 6 rfl) ?_
  refine lv_tableIn (tgt := 109) hx hb d_K_revision_68 (by decide +kernel) (by decide +kernel) rfl (by decide) ?_
  refine lv_aload hx hb d_K_revision_109 (lv_at hl 1 rfl) ?_
  refine va_getN (D := (dC, dI)) (ci := 6) (v := .int sm) (C := R_V) (T := F_V) (N := 3) hx hb hw0 in_V hown hK hP 5 rfl rfl 2 (by decide) (va_Nw.use rfl (hN.1 (.fieldLinkNest R_K 160 "TextKeeper$Revision" "sum" "I" "TextKeeper") (List.mem_of_getElem? (i := 17) rfl))) (fun _ h9 => h9) rfl d_K_revision_111 ?_
  exact W.iret (v := sm) hx hb hr (fun t ht hW => ⟨sm, rfl, rfl, ht⟩) (fun q h => by cases h) d_K_revision_114
set_option maxHeartbeats 4000000 in
set_option maxRecDepth 100000 in
theorem g_rev_A0 (l : Launch) (dC : Nat → ClassId) (dI : Nat → Nat → Nat) (h0 : Nat) (v_buffer : Value) (v_fetched : Value) (v_compared : Value) (v_maker : Value) (v_writer : Value) (i_madeDocuments : Int32) (i_fetchedSteps : Int32) (hp : Nat) (p_i_going : Int32) (p_i_writesLeft : Int32) (hd : Nat) (cD : ClassId) (fD : Nat → Option Nat) (hdo : Nat) (hra : Nat) (cR : ClassId) (df : Nat) (dn : Nat) (fr : Nat → Option Nat) (hv : Nat) (hpi : Nat) (cB : ClassId) (np : Nat) (fp : Nat → Int32) (au : Int32) (sm : Int32) (a1 : Int32) (r9 : Nat) (hdS : atN 8 fD a1 = some hdo) (hdn : dn ≤ 64) (hkS : atN dn fr (nI r9) = some hv) (ha1 : df ≤ r9) (ha2 : r9 < dn) : Met l y_K_revision k_K_revision ({ frames := 2, cells := 0, slots := 0, locals := 44 } : Room) (va_Pc [.ref h0, .int a1, .int (nI r9), .int 0] (pc_R (dC, dI) [(h0, .inr (0, [.ref hd, v_buffer, v_fetched, v_compared, v_maker, v_writer, .ref hp, .int i_madeDocuments, .int i_fetchedSteps])), (hp, .inr (4, [.int 0, .int p_i_going, .int p_i_writesLeft])), (hd, .inl (cD, 8, .inr (.inr (.inr (.inr (fD)))))), (hdo, .inr (5, [.ref hra, .int (nI df), .int (nI dn)])), (hra, .inl (cR, 64, .inr (.inr (.inr (.inr (fr)))))), (hv, .inr (6, [.ref hpi, .int au, .int sm])), (hpi, .inl (cB, np, .inl (fp)))] [(cD, .object R_D), (cR, .object R_V), (cB, .byte)])) (vp_Si (fun r => r = nI np)) 0 0 (fun _ => False) := by
  refine Met.ofW (cc := prog_1_method_12_code) (maxL := 7) (ret := (some .int)) (by decide) rfl ?_
  intro p e s m args below meth c s₁ B hml hv
  obtain ⟨rfl, hP, hK, hN⟩ := hv
  have hx := B.exec
  have hb := B.bytes
  have hr := B.returns
  have hts := atoms_spec (ws := k_K_revision) B.pre
  have hw0 : ∀ w ∈ w0, w.before _ s = true := fun w h => hts w (List.mem_cons_of_mem _ h)
  have hown : s.vm.findClass R_K = some m.cls := findClass_of_methodNamed B.named
  have hlocks := B.notSynchronized
  have hP : va_P (dC, dI) vwCl [(h0, .inr (0, [.ref hd, v_buffer, v_fetched, v_compared, v_maker, v_writer, .ref hp, .int i_madeDocuments, .int i_fetchedSteps])), (hp, .inr (4, [.int 0, .int p_i_going, .int p_i_writesLeft])), (hd, .inl (cD, 8, .inr (.inr (.inr (.inr (fD)))))), (hdo, .inr (5, [.ref hra, .int (nI df), .int (nI dn)])), (hra, .inl (cR, 64, .inr (.inr (.inr (.inr (fr)))))), (hv, .inr (6, [.ref hpi, .int au, .int sm])), (hpi, .inl (cB, np, .inl (fp)))] s.heap := hP
  have hl := lv_entry ([.ref h0, .int a1, .int (nI r9), .int 0]) (n := 7) (Nat.le_of_ble_eq_true rfl)
  rw [lg_entry_eq]
  generalize (lg_sl ([.ref h0, .int a1, .int (nI r9), .int 0]) ++ List.replicate (7 - (lg_sl ([.ref h0, .int a1, .int (nI r9), .int 0])).length) Slot.unset).toArray = ls at hl ⊢
  have hl : lv_has ls 7 [(0, .ref h0), (1, .int a1), (2, .int (nI r9)), (3, .int 0)] := hl
  refine lv_aload_n hx hb d_K_revision_0 rfl (lv_at hl 0 rfl) ?_
  have hPc := hP.sub (ws' := [(h0, .inr (0, [.ref hd, v_buffer, v_fetched, v_compared, v_maker, v_writer, .ref hp, .int i_madeDocuments, .int i_fetchedSteps])), (hp, .inr (4, [.int 0, .int p_i_going, .int p_i_writesLeft]))]) [0, 1] rfl
  have hKc := hK.sub (tys' := []) [] rfl
  refine ps_v (va_runV (As := []) (rest := []) ⟨hx, hb, hml, hown, hw0⟩ (g_needPower l dC dI h0 (.ref hd) v_buffer v_fetched v_compared v_maker v_writer i_madeDocuments i_fetchedSteps hp p_i_going p_i_writesLeft) (cwV 0 hw0 (gd_Vm wm_404 wm_405 wm_406 wm_308 wm_407) rfl rfl rfl (by decide +kernel) ⟨by decide +kernel, by decide +kernel⟩) (prV_R hPc hKc hN (va_recv hKc hPc (ci := 0) (q0 := 0) rfl rfl)) rfl rfl hl.1 rfl (lv_room (Nat.le_of_ble_eq_true rfl)) d_K_revision_1 ⟨by decide +kernel, by decide +kernel⟩) ?_
  refine lv_aload_n hx hb d_K_revision_4 rfl (lv_at hl 0 rfl) ?_
  refine lv_iload_n hx hb d_K_revision_5 rfl (lv_at hl 1 rfl) ?_
  have hPc := hP.sub (ws' := [(h0, .inr (0, [.ref hd, v_buffer, v_fetched, v_compared, v_maker, v_writer, .ref hp, .int i_madeDocuments, .int i_fetchedSteps])), (hd, .inl (cD, 8, .inr (.inr (.inr (.inr ((fD)))))))]) [0, 2] rfl
  have hKc := hK.sub (tys' := [(cD, .object R_D)]) [0] rfl
  refine ps_q (va_runV (As := [.int a1]) (rest := []) ⟨hx, hb, hml, hown, hw0⟩ (g_docAt_S l dC dI h0 v_buffer v_fetched v_compared v_maker v_writer (.ref hp) i_madeDocuments i_fetchedSteps hd cD (fD) a1 hdo (by first | assumption | decide | omega)) (cwV 1 hw0 (gd_Vm wm_399 wm_400 wm_401 wm_308 wm_402) rfl rfl rfl (by decide +kernel) ⟨by decide +kernel, by decide +kernel⟩) (prV_R hPc hKc hN (va_recv hKc hPc (ci := 0) (q0 := 0) rfl rfl)) rfl rfl hl.1 rfl (lv_room (Nat.le_of_ble_eq_true rfl)) d_K_revision_6 ⟨by decide +kernel, by decide +kernel⟩) (fun r_1 hr_1 => ?_)
  obtain rfl : r_1 = some hdo := hr_1
  refine W.eq (g2 := F0 m 9 ls [.ref hdo]) rfl ?_
  refine lv_astore (lv' := [(4, .ref hdo), (0, .ref h0), (1, .int a1), (2, .int (nI r9)), (3, .int 0)]) hx hb d_K_revision_9 hl (by decide) rfl (fun ls hl => ?_)
  refine lv_aload_n hx hb d_K_revision_11 rfl (lv_at hl 1 rfl) ?_
  refine lv_iload_n hx hb d_K_revision_12 rfl (lv_at hl 2 rfl) ?_
  refine lv_iload_n hx hb d_K_revision_13 rfl (lv_at hl 3 rfl) ?_
  have hPc := hP.sub (ws' := [(h0, .inr (0, [.ref hd, v_buffer, v_fetched, v_compared, v_maker, v_writer, .ref hp, .int i_madeDocuments, .int i_fetchedSteps])), (hd, .inl (cD, 8, .inr (.inr (.inr (.inr ((fD))))))), (hdo, .inr (5, [.ref hra, .int (nI df), .int (nI dn)])), (hra, .inl (cR, 64, .inr (.inr (.inr (.inr ((fr)))))))]) [0, 2, 3, 4] rfl
  have hKc := hK.sub (tys' := [(cD, .object R_D), (cR, .object R_V)]) [0, 1] rfl
  refine ps_q (va_runV (As := [.int a1, .int (nI r9)]) (rest := []) ⟨hx, hb, hml, hown, hw0⟩ (g_keptR_S l dC dI h0 v_buffer v_fetched v_compared v_maker v_writer (.ref hp) i_madeDocuments i_fetchedSteps hd cD (fD) _ hra cR df dn (fr) a1 (nI r9) hv (by first | assumption | decide | omega) (by first | assumption | decide | omega) (by first | assumption | decide | omega)) (cwV 2 hw0 (gd_Vm wm_427 wm_428 wm_429 wm_308 wm_430) rfl rfl rfl (by decide +kernel) ⟨by decide +kernel, by decide +kernel⟩) (prV_R hPc hKc hN (va_recv hKc hPc (ci := 0) (q0 := 0) rfl rfl)) rfl rfl hl.1 rfl (lv_room (Nat.le_of_ble_eq_true rfl)) d_K_revision_14 ⟨by decide +kernel, by decide +kernel⟩) (fun r_2 hr_2 => ?_)
  obtain rfl : r_2 = some hv := hr_2
  refine W.eq (g2 := F0 m 17 ls [.ref hv]) rfl ?_
  refine lv_astore (lv' := [(5, .ref hv), (4, .ref hdo), (0, .ref h0), (1, .int a1), (2, .int (nI r9)), (3, .int 0)]) hx hb d_K_revision_17 hl (by decide) rfl (fun ls hl => ?_)
  refine lv_aload hx hb d_K_revision_19 (lv_at hl 1 rfl) ?_
  refine lv_ifnull hx hb d_K_revision_21 ?_
  refine lv_aload hx hb d_K_revision_24 (lv_at hl 1 rfl) ?_
  refine lv_iload_n hx hb d_K_revision_26 rfl (lv_at hl 4 rfl) ?_
  have hPc := hP.sub (ws' := [(hdo, .inr (5, [.ref hra, .int (nI df), .int (nI dn)])), (hra, .inl (cR, 64, .inr (.inr (.inr (.inr ((fr)))))))]) [3, 4] rfl
  have hKc := hK.sub (tys' := [(cR, .object R_V)]) [1] rfl
  refine ps_i (va_runV (As := [.int (nI r9)]) (rest := []) ⟨hx, hb, hml, hown, hw0⟩ (g_asked_T l dC dI hdo hra cR df dn (fr) r9 (by first | assumption | decide | omega) (by first | assumption | decide | omega) (by first | assumption | decide | omega)) (cwV 1 hw0 (gd_Vm wm_452 wm_453 wm_454 wm_315 wm_455) rfl rfl rfl (by decide +kernel) ⟨by decide +kernel, by decide +kernel⟩) (prV_R hPc hKc hN (va_recv hKc hPc (ci := 5) (q0 := 0) rfl rfl)) rfl rfl hl.1 rfl (lv_room (Nat.le_of_ble_eq_true rfl)) d_K_revision_27 ⟨by decide +kernel, by decide +kernel⟩) (fun r_3 hr_3 => ?_)
  obtain rfl : r_3 = 1 := hr_3
  refine lv_if_eq (tgt := 37) hx hb d_K_revision_30 (by decide) (fun h9 => absurd h9 (by decide +kernel)) (fun _ => ?_)
  refine lv_iconst (v := 1) hx hb d_K_revision_33 (by decide) ?_
  refine lv_goto (tgt := 38) hx hb d_K_revision_34 (by decide) ?_
  refine lv_istore (lv' := [(6, .int 1), (5, .ref hv), (4, .ref hdo), (0, .ref h0), (1, .int a1), (2, .int (nI r9)), (3, .int 0)]) hx hb d_K_revision_38 hl (by decide) rfl (fun ls hl => ?_)
  refine lv_aload hx hb d_K_revision_40 (lv_at hl 1 rfl) ?_
  refine lv_ifnull hx hb d_K_revision_42 ?_
  refine lv_iload hx hb d_K_revision_45 (lv_at hl 0 rfl) ?_
  refine lv_if_ne (tgt := 67) hx hb d_K_revision_47 (by decide) (fun _ => ?_) (fun h9 => absurd h9 (by decide +kernel))
  refine lv_iload_n hx hb d_K_revision_67 rfl (lv_at hl 6 rfl) ?_
  refine lv_tableIn (tgt := 96) hx hb d_K_revision_68 (by decide +kernel) (by decide +kernel) rfl (by decide) ?_
  refine lv_aload hx hb d_K_revision_96 (lv_at hl 1 rfl) ?_
  refine va_getN (D := (dC, dI)) (ci := 6) (v := .ref hpi) (C := R_V) (T := F_V) (N := 3) hx hb hw0 in_V hown hK hP 5 rfl rfl 0 (by decide) (va_Nw.use rfl (hN.1 (.fieldLinkNest R_K 153 "TextKeeper$Revision" "piece" "[B" "TextKeeper") (List.mem_of_getElem? (i := 14) rfl))) (fun _ h9 => h9) rfl d_K_revision_98 ?_
  refine va_alen (v := nI np) hx hb hK hP 6 2 rfl rfl (rfl) d_K_revision_101 ?_
  exact W.iret (v := (nI np)) hx hb hr (fun t ht hW => ⟨(nI np), rfl, rfl, ht⟩) (fun q h => by cases h) d_K_revision_102
set_option maxHeartbeats 4000000 in
set_option maxRecDepth 100000 in
theorem g_rev_A1 (l : Launch) (dC : Nat → ClassId) (dI : Nat → Nat → Nat) (h0 : Nat) (v_buffer : Value) (v_fetched : Value) (v_compared : Value) (v_maker : Value) (v_writer : Value) (i_madeDocuments : Int32) (i_fetchedSteps : Int32) (hp : Nat) (p_i_going : Int32) (p_i_writesLeft : Int32) (hd : Nat) (cD : ClassId) (fD : Nat → Option Nat) (hdo : Nat) (hra : Nat) (cR : ClassId) (df : Nat) (dn : Nat) (fr : Nat → Option Nat) (hv : Nat) (hpi : Nat) (cB : ClassId) (np : Nat) (fp : Nat → Int32) (au : Int32) (sm : Int32) (a1 : Int32) (r9 : Nat) (hdS : atN 8 fD a1 = some hdo) (hdn : dn ≤ 64) (hkS : atN dn fr (nI r9) = some hv) (ha1 : df ≤ r9) (ha2 : r9 < dn) : Met l y_K_revision k_K_revision ({ frames := 2, cells := 0, slots := 0, locals := 44 } : Room) (va_Pc [.ref h0, .int a1, .int (nI r9), .int 1] (pc_R (dC, dI) [(h0, .inr (0, [.ref hd, v_buffer, v_fetched, v_compared, v_maker, v_writer, .ref hp, .int i_madeDocuments, .int i_fetchedSteps])), (hp, .inr (4, [.int 0, .int p_i_going, .int p_i_writesLeft])), (hd, .inl (cD, 8, .inr (.inr (.inr (.inr (fD)))))), (hdo, .inr (5, [.ref hra, .int (nI df), .int (nI dn)])), (hra, .inl (cR, 64, .inr (.inr (.inr (.inr (fr)))))), (hv, .inr (6, [.ref hpi, .int au, .int sm])), (hpi, .inl (cB, np, .inl (fp)))] [(cD, .object R_D), (cR, .object R_V), (cB, .byte)])) (vp_Si (fun r => r = au)) 0 0 (fun _ => False) := by
  refine Met.ofW (cc := prog_1_method_12_code) (maxL := 7) (ret := (some .int)) (by decide) rfl ?_
  intro p e s m args below meth c s₁ B hml hv
  obtain ⟨rfl, hP, hK, hN⟩ := hv
  have hx := B.exec
  have hb := B.bytes
  have hr := B.returns
  have hts := atoms_spec (ws := k_K_revision) B.pre
  have hw0 : ∀ w ∈ w0, w.before _ s = true := fun w h => hts w (List.mem_cons_of_mem _ h)
  have hown : s.vm.findClass R_K = some m.cls := findClass_of_methodNamed B.named
  have hlocks := B.notSynchronized
  have hP : va_P (dC, dI) vwCl [(h0, .inr (0, [.ref hd, v_buffer, v_fetched, v_compared, v_maker, v_writer, .ref hp, .int i_madeDocuments, .int i_fetchedSteps])), (hp, .inr (4, [.int 0, .int p_i_going, .int p_i_writesLeft])), (hd, .inl (cD, 8, .inr (.inr (.inr (.inr (fD)))))), (hdo, .inr (5, [.ref hra, .int (nI df), .int (nI dn)])), (hra, .inl (cR, 64, .inr (.inr (.inr (.inr (fr)))))), (hv, .inr (6, [.ref hpi, .int au, .int sm])), (hpi, .inl (cB, np, .inl (fp)))] s.heap := hP
  have hl := lv_entry ([.ref h0, .int a1, .int (nI r9), .int 1]) (n := 7) (Nat.le_of_ble_eq_true rfl)
  rw [lg_entry_eq]
  generalize (lg_sl ([.ref h0, .int a1, .int (nI r9), .int 1]) ++ List.replicate (7 - (lg_sl ([.ref h0, .int a1, .int (nI r9), .int 1])).length) Slot.unset).toArray = ls at hl ⊢
  have hl : lv_has ls 7 [(0, .ref h0), (1, .int a1), (2, .int (nI r9)), (3, .int 1)] := hl
  refine lv_aload_n hx hb d_K_revision_0 rfl (lv_at hl 0 rfl) ?_
  have hPc := hP.sub (ws' := [(h0, .inr (0, [.ref hd, v_buffer, v_fetched, v_compared, v_maker, v_writer, .ref hp, .int i_madeDocuments, .int i_fetchedSteps])), (hp, .inr (4, [.int 0, .int p_i_going, .int p_i_writesLeft]))]) [0, 1] rfl
  have hKc := hK.sub (tys' := []) [] rfl
  refine ps_v (va_runV (As := []) (rest := []) ⟨hx, hb, hml, hown, hw0⟩ (g_needPower l dC dI h0 (.ref hd) v_buffer v_fetched v_compared v_maker v_writer i_madeDocuments i_fetchedSteps hp p_i_going p_i_writesLeft) (cwV 0 hw0 (gd_Vm wm_404 wm_405 wm_406 wm_308 wm_407) rfl rfl rfl (by decide +kernel) ⟨by decide +kernel, by decide +kernel⟩) (prV_R hPc hKc hN (va_recv hKc hPc (ci := 0) (q0 := 0) rfl rfl)) rfl rfl hl.1 rfl (lv_room (Nat.le_of_ble_eq_true rfl)) d_K_revision_1 ⟨by decide +kernel, by decide +kernel⟩) ?_
  refine lv_aload_n hx hb d_K_revision_4 rfl (lv_at hl 0 rfl) ?_
  refine lv_iload_n hx hb d_K_revision_5 rfl (lv_at hl 1 rfl) ?_
  have hPc := hP.sub (ws' := [(h0, .inr (0, [.ref hd, v_buffer, v_fetched, v_compared, v_maker, v_writer, .ref hp, .int i_madeDocuments, .int i_fetchedSteps])), (hd, .inl (cD, 8, .inr (.inr (.inr (.inr ((fD)))))))]) [0, 2] rfl
  have hKc := hK.sub (tys' := [(cD, .object R_D)]) [0] rfl
  refine ps_q (va_runV (As := [.int a1]) (rest := []) ⟨hx, hb, hml, hown, hw0⟩ (g_docAt_S l dC dI h0 v_buffer v_fetched v_compared v_maker v_writer (.ref hp) i_madeDocuments i_fetchedSteps hd cD (fD) a1 hdo (by first | assumption | decide | omega)) (cwV 1 hw0 (gd_Vm wm_399 wm_400 wm_401 wm_308 wm_402) rfl rfl rfl (by decide +kernel) ⟨by decide +kernel, by decide +kernel⟩) (prV_R hPc hKc hN (va_recv hKc hPc (ci := 0) (q0 := 0) rfl rfl)) rfl rfl hl.1 rfl (lv_room (Nat.le_of_ble_eq_true rfl)) d_K_revision_6 ⟨by decide +kernel, by decide +kernel⟩) (fun r_1 hr_1 => ?_)
  obtain rfl : r_1 = some hdo := hr_1
  refine W.eq (g2 := F0 m 9 ls [.ref hdo]) rfl ?_
  refine lv_astore (lv' := [(4, .ref hdo), (0, .ref h0), (1, .int a1), (2, .int (nI r9)), (3, .int 1)]) hx hb d_K_revision_9 hl (by decide) rfl (fun ls hl => ?_)
  refine lv_aload_n hx hb d_K_revision_11 rfl (lv_at hl 1 rfl) ?_
  refine lv_iload_n hx hb d_K_revision_12 rfl (lv_at hl 2 rfl) ?_
  refine lv_iload_n hx hb d_K_revision_13 rfl (lv_at hl 3 rfl) ?_
  have hPc := hP.sub (ws' := [(h0, .inr (0, [.ref hd, v_buffer, v_fetched, v_compared, v_maker, v_writer, .ref hp, .int i_madeDocuments, .int i_fetchedSteps])), (hd, .inl (cD, 8, .inr (.inr (.inr (.inr ((fD))))))), (hdo, .inr (5, [.ref hra, .int (nI df), .int (nI dn)])), (hra, .inl (cR, 64, .inr (.inr (.inr (.inr ((fr)))))))]) [0, 2, 3, 4] rfl
  have hKc := hK.sub (tys' := [(cD, .object R_D), (cR, .object R_V)]) [0, 1] rfl
  refine ps_q (va_runV (As := [.int a1, .int (nI r9)]) (rest := []) ⟨hx, hb, hml, hown, hw0⟩ (g_keptR_S l dC dI h0 v_buffer v_fetched v_compared v_maker v_writer (.ref hp) i_madeDocuments i_fetchedSteps hd cD (fD) _ hra cR df dn (fr) a1 (nI r9) hv (by first | assumption | decide | omega) (by first | assumption | decide | omega) (by first | assumption | decide | omega)) (cwV 2 hw0 (gd_Vm wm_427 wm_428 wm_429 wm_308 wm_430) rfl rfl rfl (by decide +kernel) ⟨by decide +kernel, by decide +kernel⟩) (prV_R hPc hKc hN (va_recv hKc hPc (ci := 0) (q0 := 0) rfl rfl)) rfl rfl hl.1 rfl (lv_room (Nat.le_of_ble_eq_true rfl)) d_K_revision_14 ⟨by decide +kernel, by decide +kernel⟩) (fun r_2 hr_2 => ?_)
  obtain rfl : r_2 = some hv := hr_2
  refine W.eq (g2 := F0 m 17 ls [.ref hv]) rfl ?_
  refine lv_astore (lv' := [(5, .ref hv), (4, .ref hdo), (0, .ref h0), (1, .int a1), (2, .int (nI r9)), (3, .int 1)]) hx hb d_K_revision_17 hl (by decide) rfl (fun ls hl => ?_)
  refine lv_aload hx hb d_K_revision_19 (lv_at hl 1 rfl) ?_
  refine lv_ifnull hx hb d_K_revision_21 ?_
  refine lv_aload hx hb d_K_revision_24 (lv_at hl 1 rfl) ?_
  refine lv_iload_n hx hb d_K_revision_26 rfl (lv_at hl 4 rfl) ?_
  have hPc := hP.sub (ws' := [(hdo, .inr (5, [.ref hra, .int (nI df), .int (nI dn)])), (hra, .inl (cR, 64, .inr (.inr (.inr (.inr ((fr)))))))]) [3, 4] rfl
  have hKc := hK.sub (tys' := [(cR, .object R_V)]) [1] rfl
  refine ps_i (va_runV (As := [.int (nI r9)]) (rest := []) ⟨hx, hb, hml, hown, hw0⟩ (g_asked_T l dC dI hdo hra cR df dn (fr) r9 (by first | assumption | decide | omega) (by first | assumption | decide | omega) (by first | assumption | decide | omega)) (cwV 1 hw0 (gd_Vm wm_452 wm_453 wm_454 wm_315 wm_455) rfl rfl rfl (by decide +kernel) ⟨by decide +kernel, by decide +kernel⟩) (prV_R hPc hKc hN (va_recv hKc hPc (ci := 5) (q0 := 0) rfl rfl)) rfl rfl hl.1 rfl (lv_room (Nat.le_of_ble_eq_true rfl)) d_K_revision_27 ⟨by decide +kernel, by decide +kernel⟩) (fun r_3 hr_3 => ?_)
  obtain rfl : r_3 = 1 := hr_3
  refine lv_if_eq (tgt := 37) hx hb d_K_revision_30 (by decide) (fun h9 => absurd h9 (by decide +kernel)) (fun _ => ?_)
  refine lv_iconst (v := 1) hx hb d_K_revision_33 (by decide) ?_
  refine lv_goto (tgt := 38) hx hb d_K_revision_34 (by decide) ?_
  refine lv_istore (lv' := [(6, .int 1), (5, .ref hv), (4, .ref hdo), (0, .ref h0), (1, .int a1), (2, .int (nI r9)), (3, .int 1)]) hx hb d_K_revision_38 hl (by decide) rfl (fun ls hl => ?_)
  refine lv_aload hx hb d_K_revision_40 (lv_at hl 1 rfl) ?_
  refine lv_ifnull hx hb d_K_revision_42 ?_
  refine lv_iload hx hb d_K_revision_45 (lv_at hl 0 rfl) ?_
  refine lv_if_ne (tgt := 67) hx hb d_K_revision_47 (by decide) (fun _ => ?_) (fun h9 => absurd h9 (by decide +kernel))
  refine lv_iload_n hx hb d_K_revision_67 rfl (lv_at hl 6 rfl) ?_
  refine lv_tableIn (tgt := 103) hx hb d_K_revision_68 (by decide +kernel) (by decide +kernel) rfl (by decide) ?_
  refine lv_aload hx hb d_K_revision_103 (lv_at hl 1 rfl) ?_
  refine va_getN (D := (dC, dI)) (ci := 6) (v := .int au) (C := R_V) (T := F_V) (N := 3) hx hb hw0 in_V hown hK hP 5 rfl rfl 1 (by decide) (va_Nw.use rfl (hN.1 (.fieldLinkNest R_K 157 "TextKeeper$Revision" "author" "I" "TextKeeper") (List.mem_of_getElem? (i := 19) rfl))) (fun _ h9 => h9) rfl d_K_revision_105 ?_
  exact W.iret (v := au) hx hb hr (fun t ht hW => ⟨au, rfl, rfl, ht⟩) (fun q h => by cases h) d_K_revision_108
set_option maxHeartbeats 4000000 in
set_option maxRecDepth 100000 in
theorem g_rev_A2 (l : Launch) (dC : Nat → ClassId) (dI : Nat → Nat → Nat) (h0 : Nat) (v_buffer : Value) (v_fetched : Value) (v_compared : Value) (v_maker : Value) (v_writer : Value) (i_madeDocuments : Int32) (i_fetchedSteps : Int32) (hp : Nat) (p_i_going : Int32) (p_i_writesLeft : Int32) (hd : Nat) (cD : ClassId) (fD : Nat → Option Nat) (hdo : Nat) (hra : Nat) (cR : ClassId) (df : Nat) (dn : Nat) (fr : Nat → Option Nat) (hv : Nat) (hpi : Nat) (cB : ClassId) (np : Nat) (fp : Nat → Int32) (au : Int32) (sm : Int32) (a1 : Int32) (r9 : Nat) (hdS : atN 8 fD a1 = some hdo) (hdn : dn ≤ 64) (hkS : atN dn fr (nI r9) = some hv) (ha1 : df ≤ r9) (ha2 : r9 < dn) : Met l y_K_revision k_K_revision ({ frames := 2, cells := 0, slots := 0, locals := 44 } : Room) (va_Pc [.ref h0, .int a1, .int (nI r9), .int 2] (pc_R (dC, dI) [(h0, .inr (0, [.ref hd, v_buffer, v_fetched, v_compared, v_maker, v_writer, .ref hp, .int i_madeDocuments, .int i_fetchedSteps])), (hp, .inr (4, [.int 0, .int p_i_going, .int p_i_writesLeft])), (hd, .inl (cD, 8, .inr (.inr (.inr (.inr (fD)))))), (hdo, .inr (5, [.ref hra, .int (nI df), .int (nI dn)])), (hra, .inl (cR, 64, .inr (.inr (.inr (.inr (fr)))))), (hv, .inr (6, [.ref hpi, .int au, .int sm])), (hpi, .inl (cB, np, .inl (fp)))] [(cD, .object R_D), (cR, .object R_V), (cB, .byte)])) (vp_Si (fun r => r = sm)) 0 0 (fun _ => False) := by
  refine Met.ofW (cc := prog_1_method_12_code) (maxL := 7) (ret := (some .int)) (by decide) rfl ?_
  intro p e s m args below meth c s₁ B hml hv
  obtain ⟨rfl, hP, hK, hN⟩ := hv
  have hx := B.exec
  have hb := B.bytes
  have hr := B.returns
  have hts := atoms_spec (ws := k_K_revision) B.pre
  have hw0 : ∀ w ∈ w0, w.before _ s = true := fun w h => hts w (List.mem_cons_of_mem _ h)
  have hown : s.vm.findClass R_K = some m.cls := findClass_of_methodNamed B.named
  have hlocks := B.notSynchronized
  have hP : va_P (dC, dI) vwCl [(h0, .inr (0, [.ref hd, v_buffer, v_fetched, v_compared, v_maker, v_writer, .ref hp, .int i_madeDocuments, .int i_fetchedSteps])), (hp, .inr (4, [.int 0, .int p_i_going, .int p_i_writesLeft])), (hd, .inl (cD, 8, .inr (.inr (.inr (.inr (fD)))))), (hdo, .inr (5, [.ref hra, .int (nI df), .int (nI dn)])), (hra, .inl (cR, 64, .inr (.inr (.inr (.inr (fr)))))), (hv, .inr (6, [.ref hpi, .int au, .int sm])), (hpi, .inl (cB, np, .inl (fp)))] s.heap := hP
  have hl := lv_entry ([.ref h0, .int a1, .int (nI r9), .int 2]) (n := 7) (Nat.le_of_ble_eq_true rfl)
  rw [lg_entry_eq]
  generalize (lg_sl ([.ref h0, .int a1, .int (nI r9), .int 2]) ++ List.replicate (7 - (lg_sl ([.ref h0, .int a1, .int (nI r9), .int 2])).length) Slot.unset).toArray = ls at hl ⊢
  have hl : lv_has ls 7 [(0, .ref h0), (1, .int a1), (2, .int (nI r9)), (3, .int 2)] := hl
  refine lv_aload_n hx hb d_K_revision_0 rfl (lv_at hl 0 rfl) ?_
  have hPc := hP.sub (ws' := [(h0, .inr (0, [.ref hd, v_buffer, v_fetched, v_compared, v_maker, v_writer, .ref hp, .int i_madeDocuments, .int i_fetchedSteps])), (hp, .inr (4, [.int 0, .int p_i_going, .int p_i_writesLeft]))]) [0, 1] rfl
  have hKc := hK.sub (tys' := []) [] rfl
  refine ps_v (va_runV (As := []) (rest := []) ⟨hx, hb, hml, hown, hw0⟩ (g_needPower l dC dI h0 (.ref hd) v_buffer v_fetched v_compared v_maker v_writer i_madeDocuments i_fetchedSteps hp p_i_going p_i_writesLeft) (cwV 0 hw0 (gd_Vm wm_404 wm_405 wm_406 wm_308 wm_407) rfl rfl rfl (by decide +kernel) ⟨by decide +kernel, by decide +kernel⟩) (prV_R hPc hKc hN (va_recv hKc hPc (ci := 0) (q0 := 0) rfl rfl)) rfl rfl hl.1 rfl (lv_room (Nat.le_of_ble_eq_true rfl)) d_K_revision_1 ⟨by decide +kernel, by decide +kernel⟩) ?_
  refine lv_aload_n hx hb d_K_revision_4 rfl (lv_at hl 0 rfl) ?_
  refine lv_iload_n hx hb d_K_revision_5 rfl (lv_at hl 1 rfl) ?_
  have hPc := hP.sub (ws' := [(h0, .inr (0, [.ref hd, v_buffer, v_fetched, v_compared, v_maker, v_writer, .ref hp, .int i_madeDocuments, .int i_fetchedSteps])), (hd, .inl (cD, 8, .inr (.inr (.inr (.inr ((fD)))))))]) [0, 2] rfl
  have hKc := hK.sub (tys' := [(cD, .object R_D)]) [0] rfl
  refine ps_q (va_runV (As := [.int a1]) (rest := []) ⟨hx, hb, hml, hown, hw0⟩ (g_docAt_S l dC dI h0 v_buffer v_fetched v_compared v_maker v_writer (.ref hp) i_madeDocuments i_fetchedSteps hd cD (fD) a1 hdo (by first | assumption | decide | omega)) (cwV 1 hw0 (gd_Vm wm_399 wm_400 wm_401 wm_308 wm_402) rfl rfl rfl (by decide +kernel) ⟨by decide +kernel, by decide +kernel⟩) (prV_R hPc hKc hN (va_recv hKc hPc (ci := 0) (q0 := 0) rfl rfl)) rfl rfl hl.1 rfl (lv_room (Nat.le_of_ble_eq_true rfl)) d_K_revision_6 ⟨by decide +kernel, by decide +kernel⟩) (fun r_1 hr_1 => ?_)
  obtain rfl : r_1 = some hdo := hr_1
  refine W.eq (g2 := F0 m 9 ls [.ref hdo]) rfl ?_
  refine lv_astore (lv' := [(4, .ref hdo), (0, .ref h0), (1, .int a1), (2, .int (nI r9)), (3, .int 2)]) hx hb d_K_revision_9 hl (by decide) rfl (fun ls hl => ?_)
  refine lv_aload_n hx hb d_K_revision_11 rfl (lv_at hl 1 rfl) ?_
  refine lv_iload_n hx hb d_K_revision_12 rfl (lv_at hl 2 rfl) ?_
  refine lv_iload_n hx hb d_K_revision_13 rfl (lv_at hl 3 rfl) ?_
  have hPc := hP.sub (ws' := [(h0, .inr (0, [.ref hd, v_buffer, v_fetched, v_compared, v_maker, v_writer, .ref hp, .int i_madeDocuments, .int i_fetchedSteps])), (hd, .inl (cD, 8, .inr (.inr (.inr (.inr ((fD))))))), (hdo, .inr (5, [.ref hra, .int (nI df), .int (nI dn)])), (hra, .inl (cR, 64, .inr (.inr (.inr (.inr ((fr)))))))]) [0, 2, 3, 4] rfl
  have hKc := hK.sub (tys' := [(cD, .object R_D), (cR, .object R_V)]) [0, 1] rfl
  refine ps_q (va_runV (As := [.int a1, .int (nI r9)]) (rest := []) ⟨hx, hb, hml, hown, hw0⟩ (g_keptR_S l dC dI h0 v_buffer v_fetched v_compared v_maker v_writer (.ref hp) i_madeDocuments i_fetchedSteps hd cD (fD) _ hra cR df dn (fr) a1 (nI r9) hv (by first | assumption | decide | omega) (by first | assumption | decide | omega) (by first | assumption | decide | omega)) (cwV 2 hw0 (gd_Vm wm_427 wm_428 wm_429 wm_308 wm_430) rfl rfl rfl (by decide +kernel) ⟨by decide +kernel, by decide +kernel⟩) (prV_R hPc hKc hN (va_recv hKc hPc (ci := 0) (q0 := 0) rfl rfl)) rfl rfl hl.1 rfl (lv_room (Nat.le_of_ble_eq_true rfl)) d_K_revision_14 ⟨by decide +kernel, by decide +kernel⟩) (fun r_2 hr_2 => ?_)
  obtain rfl : r_2 = some hv := hr_2
  refine W.eq (g2 := F0 m 17 ls [.ref hv]) rfl ?_
  refine lv_astore (lv' := [(5, .ref hv), (4, .ref hdo), (0, .ref h0), (1, .int a1), (2, .int (nI r9)), (3, .int 2)]) hx hb d_K_revision_17 hl (by decide) rfl (fun ls hl => ?_)
  refine lv_aload hx hb d_K_revision_19 (lv_at hl 1 rfl) ?_
  refine lv_ifnull hx hb d_K_revision_21 ?_
  refine lv_aload hx hb d_K_revision_24 (lv_at hl 1 rfl) ?_
  refine lv_iload_n hx hb d_K_revision_26 rfl (lv_at hl 4 rfl) ?_
  have hPc := hP.sub (ws' := [(hdo, .inr (5, [.ref hra, .int (nI df), .int (nI dn)])), (hra, .inl (cR, 64, .inr (.inr (.inr (.inr ((fr)))))))]) [3, 4] rfl
  have hKc := hK.sub (tys' := [(cR, .object R_V)]) [1] rfl
  refine ps_i (va_runV (As := [.int (nI r9)]) (rest := []) ⟨hx, hb, hml, hown, hw0⟩ (g_asked_T l dC dI hdo hra cR df dn (fr) r9 (by first | assumption | decide | omega) (by first | assumption | decide | omega) (by first | assumption | decide | omega)) (cwV 1 hw0 (gd_Vm wm_452 wm_453 wm_454 wm_315 wm_455) rfl rfl rfl (by decide +kernel) ⟨by decide +kernel, by decide +kernel⟩) (prV_R hPc hKc hN (va_recv hKc hPc (ci := 5) (q0 := 0) rfl rfl)) rfl rfl hl.1 rfl (lv_room (Nat.le_of_ble_eq_true rfl)) d_K_revision_27 ⟨by decide +kernel, by decide +kernel⟩) (fun r_3 hr_3 => ?_)
  obtain rfl : r_3 = 1 := hr_3
  refine lv_if_eq (tgt := 37) hx hb d_K_revision_30 (by decide) (fun h9 => absurd h9 (by decide +kernel)) (fun _ => ?_)
  refine lv_iconst (v := 1) hx hb d_K_revision_33 (by decide) ?_
  refine lv_goto (tgt := 38) hx hb d_K_revision_34 (by decide) ?_
  refine lv_istore (lv' := [(6, .int 1), (5, .ref hv), (4, .ref hdo), (0, .ref h0), (1, .int a1), (2, .int (nI r9)), (3, .int 2)]) hx hb d_K_revision_38 hl (by decide) rfl (fun ls hl => ?_)
  refine lv_aload hx hb d_K_revision_40 (lv_at hl 1 rfl) ?_
  refine lv_ifnull hx hb d_K_revision_42 ?_
  refine lv_iload hx hb d_K_revision_45 (lv_at hl 0 rfl) ?_
  refine lv_if_ne (tgt := 67) hx hb d_K_revision_47 (by decide) (fun _ => ?_) (fun h9 => absurd h9 (by decide +kernel))
  refine lv_iload_n hx hb d_K_revision_67 rfl (lv_at hl 6 rfl) ?_
  refine lv_tableIn (tgt := 109) hx hb d_K_revision_68 (by decide +kernel) (by decide +kernel) rfl (by decide) ?_
  refine lv_aload hx hb d_K_revision_109 (lv_at hl 1 rfl) ?_
  refine va_getN (D := (dC, dI)) (ci := 6) (v := .int sm) (C := R_V) (T := F_V) (N := 3) hx hb hw0 in_V hown hK hP 5 rfl rfl 2 (by decide) (va_Nw.use rfl (hN.1 (.fieldLinkNest R_K 160 "TextKeeper$Revision" "sum" "I" "TextKeeper") (List.mem_of_getElem? (i := 17) rfl))) (fun _ h9 => h9) rfl d_K_revision_111 ?_
  exact W.iret (v := sm) hx hb hr (fun t ht hW => ⟨sm, rfl, rfl, ht⟩) (fun q h => by cases h) d_K_revision_114
set_option maxHeartbeats 4000000 in
set_option maxRecDepth 100000 in
theorem x_rev_A (l : Launch) (hl9 : l.stackTraces = false) (dC : Nat → ClassId) (dI : Nat → Nat → Nat) (sz : Nat) (h0 : Nat) (v_buffer : Value) (v_fetched : Value) (v_compared : Value) (v_maker : Value) (v_writer : Value) (i_madeDocuments : Int32) (i_fetchedSteps : Int32) (hp : Nat) (p_i_going : Int32) (p_i_writesLeft : Int32) (hd : Nat) (cD : ClassId) (fD : Nat → Option Nat) (hdo : Nat) (hra : Nat) (cR : ClassId) (df : Nat) (dn : Nat) (fr : Nat → Option Nat) (hv : Nat) (hpi : Nat) (cB : ClassId) (np : Nat) (fp : Nat → Int32) (au : Int32) (sm : Int32) (a1 : Int32) (r9 : Nat) (a3 : Int32) (hdS : atN 8 fD a1 = some hdo) (hdn : dn ≤ 64) (hkS : atN dn fr (nI r9) = some hv) (ha1 : df ≤ r9) (ha2 : r9 < dn) (hw0x : ¬ a3 = 0) (hw1x : ¬ a3 = 1) (hw2x : ¬ a3 = 2) : vx_Met l y_K_revision k_K_revision ({ frames := 6, cells := 1, slots := 6, locals := 85 } : Room) (va_Pc [.ref h0, .int a1, .int (nI r9), .int a3] (fun U => pc_E (dC, dI) [(h0, .inr (0, [.ref hd, v_buffer, v_fetched, v_compared, v_maker, v_writer, .ref hp, .int i_madeDocuments, .int i_fetchedSteps])), (hp, .inr (4, [.int 0, .int p_i_going, .int p_i_writesLeft])), (hd, .inl (cD, 8, .inr (.inr (.inr (.inr (fD)))))), (hdo, .inr (5, [.ref hra, .int (nI df), .int (nI dn)])), (hra, .inl (cR, 64, .inr (.inr (.inr (.inr (fr)))))), (hv, .inr (6, [.ref hpi, .int au, .int sm])), (hpi, .inl (cB, np, .inl (fp)))] [(cD, .object R_D), (cR, .object R_V), (cB, .byte)] sz U ∧ tw_ok U)) (va_Qi (fun (_ : Int32) (_ : Unit) => False) (fun _ _ => True) (va_A [(h0, .inr (0, [.ref hd, v_buffer, v_fetched, v_compared, v_maker, v_writer, .ref hp, .int i_madeDocuments, .int i_fetchedSteps])), (hp, .inr (4, [.int 0, .int p_i_going, .int p_i_writesLeft])), (hd, .inl (cD, 8, .inr (.inr (.inr (.inr (fD)))))), (hdo, .inr (5, [.ref hra, .int (nI df), .int (nI dn)])), (hra, .inl (cR, 64, .inr (.inr (.inr (.inr (fr)))))), (hv, .inr (6, [.ref hpi, .int au, .int sm])), (hpi, .inl (cB, np, .inl (fp)))] sz)) (vx_X (fun _ : Unit => True) (fun E _ t => E = "java/lang/IllegalArgumentException" ∧ at_E (dC, dI) (va_A [(h0, .inr (0, [.ref hd, v_buffer, v_fetched, v_compared, v_maker, v_writer, .ref hp, .int i_madeDocuments, .int i_fetchedSteps])), (hp, .inr (4, [.int 0, .int p_i_going, .int p_i_writesLeft])), (hd, .inl (cD, 8, .inr (.inr (.inr (.inr (fD)))))), (hdo, .inr (5, [.ref hra, .int (nI df), .int (nI dn)])), (hra, .inl (cR, 64, .inr (.inr (.inr (.inr (fr)))))), (hv, .inr (6, [.ref hpi, .int au, .int sm])), (hpi, .inl (cB, np, .inl (fp)))] sz) [(h0, .inr (0, [.ref hd, v_buffer, v_fetched, v_compared, v_maker, v_writer, .ref hp, .int i_madeDocuments, .int i_fetchedSteps])), (hp, .inr (4, [.int 0, .int p_i_going, .int p_i_writesLeft])), (hd, .inl (cD, 8, .inr (.inr (.inr (.inr (fD)))))), (hdo, .inr (5, [.ref hra, .int (nI df), .int (nI dn)])), (hra, .inl (cR, 64, .inr (.inr (.inr (.inr (fr)))))), (hv, .inr (6, [.ref hpi, .int au, .int sm])), (hpi, .inl (cB, np, .inl (fp)))] [(cD, .object R_D), (cR, .object R_V), (cB, .byte)] t) (va_A [(h0, .inr (0, [.ref hd, v_buffer, v_fetched, v_compared, v_maker, v_writer, .ref hp, .int i_madeDocuments, .int i_fetchedSteps])), (hp, .inr (4, [.int 0, .int p_i_going, .int p_i_writesLeft])), (hd, .inl (cD, 8, .inr (.inr (.inr (.inr (fD)))))), (hdo, .inr (5, [.ref hra, .int (nI df), .int (nI dn)])), (hra, .inl (cR, 64, .inr (.inr (.inr (.inr (fr)))))), (hv, .inr (6, [.ref hpi, .int au, .int sm])), (hpi, .inl (cB, np, .inl (fp)))] sz)) 1 6 (va_A [(h0, .inr (0, [.ref hd, v_buffer, v_fetched, v_compared, v_maker, v_writer, .ref hp, .int i_madeDocuments, .int i_fetchedSteps])), (hp, .inr (4, [.int 0, .int p_i_going, .int p_i_writesLeft])), (hd, .inl (cD, 8, .inr (.inr (.inr (.inr (fD)))))), (hdo, .inr (5, [.ref hra, .int (nI df), .int (nI dn)])), (hra, .inl (cR, 64, .inr (.inr (.inr (.inr (fr)))))), (hv, .inr (6, [.ref hpi, .int au, .int sm])), (hpi, .inl (cB, np, .inl (fp)))] sz) := by
  refine vx_ofW (cc := prog_1_method_12_code) (maxL := 7) (ret := (some .int)) (by decide) rfl ?_
  intro p e s m args below meth c s₁ B hml htab hv
  obtain ⟨rfl, ⟨hsz, hP, hK, hD0, hN⟩, hTw⟩ := hv
  have hx := B.exec
  have hb := B.bytes
  have hr := B.returns
  have hts := atoms_spec (ws := k_K_revision) B.pre
  have hw0 : ∀ w ∈ w0, w.before _ s = true := fun w h => hts w (List.mem_cons_of_mem _ h)
  have hown : s.vm.findClass R_K = some m.cls := findClass_of_methodNamed B.named
  have hlocks := B.notSynchronized
  subst hsz
  have hD := hD0.self (sz := s.heap.size)
  have hTwA := tw_A hTw hP
  generalize hAe : va_A [(h0, .inr (0, [.ref hd, v_buffer, v_fetched, v_compared, v_maker, v_writer, .ref hp, .int i_madeDocuments, .int i_fetchedSteps])), (hp, .inr (4, [.int 0, .int p_i_going, .int p_i_writesLeft])), (hd, .inl (cD, 8, .inr (.inr (.inr (.inr (fD)))))), (hdo, .inr (5, [.ref hra, .int (nI df), .int (nI dn)])), (hra, .inl (cR, 64, .inr (.inr (.inr (.inr (fr)))))), (hv, .inr (6, [.ref hpi, .int au, .int sm])), (hpi, .inl (cB, np, .inl (fp)))] s.heap.size = A at hD hTwA ⊢
  have hA : ∀ q : Nat, s.heap.size ≤ q → A q := fun q h => by rw [← hAe]; exact Or.inr h
  have hS : va_S A s.heap s.heap [] := va_S.rf
  have hP : va_P (dC, dI) vwCl [(h0, .inr (0, [.ref hd, v_buffer, v_fetched, v_compared, v_maker, v_writer, .ref hp, .int i_madeDocuments, .int i_fetchedSteps])), (hp, .inr (4, [.int 0, .int p_i_going, .int p_i_writesLeft])), (hd, .inl (cD, 8, .inr (.inr (.inr (.inr (fD)))))), (hdo, .inr (5, [.ref hra, .int (nI df), .int (nI dn)])), (hra, .inl (cR, 64, .inr (.inr (.inr (.inr (fr)))))), (hv, .inr (6, [.ref hpi, .int au, .int sm])), (hpi, .inl (cB, np, .inl (fp)))] s.heap := hP
  have hl := lv_entry ([.ref h0, .int a1, .int (nI r9), .int a3]) (n := 7) (Nat.le_of_ble_eq_true rfl)
  rw [lg_entry_eq]
  generalize (lg_sl ([.ref h0, .int a1, .int (nI r9), .int a3]) ++ List.replicate (7 - (lg_sl ([.ref h0, .int a1, .int (nI r9), .int a3])).length) Slot.unset).toArray = ls at hl ⊢
  have hl : lv_has ls 7 [(0, .ref h0), (1, .int a1), (2, .int (nI r9)), (3, .int a3)] := hl
  refine lv_aload_n hx hb d_K_revision_0 rfl (lv_at hl 0 rfl) ?_
  have hPc := hP.sub (ws' := [(h0, .inr (0, [.ref hd, v_buffer, v_fetched, v_compared, v_maker, v_writer, .ref hp, .int i_madeDocuments, .int i_fetchedSteps])), (hp, .inr (4, [.int 0, .int p_i_going, .int p_i_writesLeft]))]) [0, 1] rfl
  have hKc := hK.sub (tys' := []) [] rfl
  refine ps_v (va_runV (As := []) (rest := []) ⟨hx, hb, hml, hown, hw0⟩ (g_needPower l dC dI h0 (.ref hd) v_buffer v_fetched v_compared v_maker v_writer i_madeDocuments i_fetchedSteps hp p_i_going p_i_writesLeft) (cwV 0 hw0 (gd_Vm wm_404 wm_405 wm_406 wm_308 wm_407) rfl rfl rfl (by decide +kernel) ⟨by decide +kernel, by decide +kernel⟩) (prV_R hPc hKc hN (va_recv hKc hPc (ci := 0) (q0 := 0) rfl rfl)) rfl rfl hl.1 rfl (lv_room (Nat.le_of_ble_eq_true rfl)) d_K_revision_1 ⟨by decide +kernel, by decide +kernel⟩) ?_
  refine lv_aload_n hx hb d_K_revision_4 rfl (lv_at hl 0 rfl) ?_
  refine lv_iload_n hx hb d_K_revision_5 rfl (lv_at hl 1 rfl) ?_
  have hPc := hP.sub (ws' := [(h0, .inr (0, [.ref hd, v_buffer, v_fetched, v_compared, v_maker, v_writer, .ref hp, .int i_madeDocuments, .int i_fetchedSteps])), (hd, .inl (cD, 8, .inr (.inr (.inr (.inr ((fD)))))))]) [0, 2] rfl
  have hKc := hK.sub (tys' := [(cD, .object R_D)]) [0] rfl
  refine ps_q (va_runV (As := [.int a1]) (rest := []) ⟨hx, hb, hml, hown, hw0⟩ (g_docAt_S l dC dI h0 v_buffer v_fetched v_compared v_maker v_writer (.ref hp) i_madeDocuments i_fetchedSteps hd cD (fD) a1 hdo (by first | assumption | decide | omega)) (cwV 1 hw0 (gd_Vm wm_399 wm_400 wm_401 wm_308 wm_402) rfl rfl rfl (by decide +kernel) ⟨by decide +kernel, by decide +kernel⟩) (prV_R hPc hKc hN (va_recv hKc hPc (ci := 0) (q0 := 0) rfl rfl)) rfl rfl hl.1 rfl (lv_room (Nat.le_of_ble_eq_true rfl)) d_K_revision_6 ⟨by decide +kernel, by decide +kernel⟩) (fun r_1 hr_1 => ?_)
  obtain rfl : r_1 = some hdo := hr_1
  refine W.eq (g2 := F0 m 9 ls [.ref hdo]) rfl ?_
  refine lv_astore (lv' := [(4, .ref hdo), (0, .ref h0), (1, .int a1), (2, .int (nI r9)), (3, .int a3)]) hx hb d_K_revision_9 hl (by decide) rfl (fun ls hl => ?_)
  refine lv_aload_n hx hb d_K_revision_11 rfl (lv_at hl 1 rfl) ?_
  refine lv_iload_n hx hb d_K_revision_12 rfl (lv_at hl 2 rfl) ?_
  refine lv_iload_n hx hb d_K_revision_13 rfl (lv_at hl 3 rfl) ?_
  have hPc := hP.sub (ws' := [(h0, .inr (0, [.ref hd, v_buffer, v_fetched, v_compared, v_maker, v_writer, .ref hp, .int i_madeDocuments, .int i_fetchedSteps])), (hd, .inl (cD, 8, .inr (.inr (.inr (.inr ((fD))))))), (hdo, .inr (5, [.ref hra, .int (nI df), .int (nI dn)])), (hra, .inl (cR, 64, .inr (.inr (.inr (.inr ((fr)))))))]) [0, 2, 3, 4] rfl
  have hKc := hK.sub (tys' := [(cD, .object R_D), (cR, .object R_V)]) [0, 1] rfl
  refine ps_q (va_runV (As := [.int a1, .int (nI r9)]) (rest := []) ⟨hx, hb, hml, hown, hw0⟩ (g_keptR_S l dC dI h0 v_buffer v_fetched v_compared v_maker v_writer (.ref hp) i_madeDocuments i_fetchedSteps hd cD (fD) _ hra cR df dn (fr) a1 (nI r9) hv (by first | assumption | decide | omega) (by first | assumption | decide | omega) (by first | assumption | decide | omega)) (cwV 2 hw0 (gd_Vm wm_427 wm_428 wm_429 wm_308 wm_430) rfl rfl rfl (by decide +kernel) ⟨by decide +kernel, by decide +kernel⟩) (prV_R hPc hKc hN (va_recv hKc hPc (ci := 0) (q0 := 0) rfl rfl)) rfl rfl hl.1 rfl (lv_room (Nat.le_of_ble_eq_true rfl)) d_K_revision_14 ⟨by decide +kernel, by decide +kernel⟩) (fun r_2 hr_2 => ?_)
  obtain rfl : r_2 = some hv := hr_2
  refine W.eq (g2 := F0 m 17 ls [.ref hv]) rfl ?_
  refine lv_astore (lv' := [(5, .ref hv), (4, .ref hdo), (0, .ref h0), (1, .int a1), (2, .int (nI r9)), (3, .int a3)]) hx hb d_K_revision_17 hl (by decide) rfl (fun ls hl => ?_)
  refine lv_aload hx hb d_K_revision_19 (lv_at hl 1 rfl) ?_
  refine lv_ifnull hx hb d_K_revision_21 ?_
  refine lv_aload hx hb d_K_revision_24 (lv_at hl 1 rfl) ?_
  refine lv_iload_n hx hb d_K_revision_26 rfl (lv_at hl 4 rfl) ?_
  have hPc := hP.sub (ws' := [(hdo, .inr (5, [.ref hra, .int (nI df), .int (nI dn)])), (hra, .inl (cR, 64, .inr (.inr (.inr (.inr ((fr)))))))]) [3, 4] rfl
  have hKc := hK.sub (tys' := [(cR, .object R_V)]) [1] rfl
  refine ps_i (va_runV (As := [.int (nI r9)]) (rest := []) ⟨hx, hb, hml, hown, hw0⟩ (g_asked_T l dC dI hdo hra cR df dn (fr) r9 (by first | assumption | decide | omega) (by first | assumption | decide | omega) (by first | assumption | decide | omega)) (cwV 1 hw0 (gd_Vm wm_452 wm_453 wm_454 wm_315 wm_455) rfl rfl rfl (by decide +kernel) ⟨by decide +kernel, by decide +kernel⟩) (prV_R hPc hKc hN (va_recv hKc hPc (ci := 5) (q0 := 0) rfl rfl)) rfl rfl hl.1 rfl (lv_room (Nat.le_of_ble_eq_true rfl)) d_K_revision_27 ⟨by decide +kernel, by decide +kernel⟩) (fun r_3 hr_3 => ?_)
  obtain rfl : r_3 = 1 := hr_3
  refine lv_if_eq (tgt := 37) hx hb d_K_revision_30 (by decide) (fun h9 => absurd h9 (by decide +kernel)) (fun _ => ?_)
  refine lv_iconst (v := 1) hx hb d_K_revision_33 (by decide) ?_
  refine lv_goto (tgt := 38) hx hb d_K_revision_34 (by decide) ?_
  refine lv_istore (lv' := [(6, .int 1), (5, .ref hv), (4, .ref hdo), (0, .ref h0), (1, .int a1), (2, .int (nI r9)), (3, .int a3)]) hx hb d_K_revision_38 hl (by decide) rfl (fun ls hl => ?_)
  refine lv_aload hx hb d_K_revision_40 (lv_at hl 1 rfl) ?_
  refine lv_ifnull hx hb d_K_revision_42 ?_
  refine lv_iload hx hb d_K_revision_45 (lv_at hl 0 rfl) ?_
  refine lv_if_ne (tgt := 67) hx hb d_K_revision_47 (by decide) (fun _ => ?_) (fun h9 => absurd h9 (by decide +kernel))
  refine lv_iload_n hx hb d_K_revision_67 rfl (lv_at hl 6 rfl) ?_
  refine lv_tableOut (tgt := 115) hx hb d_K_revision_68 (tab_d hw0x hw1x hw2x) (by decide) ?_
  have hP9 := hP.sub (ws' := [(h0, .inr (0, [.ref hd, v_buffer, v_fetched, v_compared, v_maker, v_writer, .ref hp, .int i_madeDocuments, .int i_fetchedSteps])), (hp, .inr (4, [.int 0, .int p_i_going, .int p_i_writesLeft])), (hd, .inl (cD, 8, .inr (.inr (.inr (.inr (fD)))))), (hdo, .inr (5, [.ref hra, .int (nI df), .int (nI dn)])), (hra, .inl (cR, 64, .inr (.inr (.inr (.inr (fr)))))), (hv, .inr (6, [.ref hpi, .int au, .int sm])), (hpi, .inl (cB, np, .inl (fp)))]) [0, 1, 2, 3, 4, 5, 6] rfl
  have hD9 := hD.sub (ws' := [(h0, .inr (0, [.ref hd, v_buffer, v_fetched, v_compared, v_maker, v_writer, .ref hp, .int i_madeDocuments, .int i_fetchedSteps])), (hp, .inr (4, [.int 0, .int p_i_going, .int p_i_writesLeft])), (hd, .inl (cD, 8, .inr (.inr (.inr (.inr (fD)))))), (hdo, .inr (5, [.ref hra, .int (nI df), .int (nI dn)])), (hra, .inl (cR, 64, .inr (.inr (.inr (.inr (fr)))))), (hv, .inr (6, [.ref hpi, .int au, .int sm])), (hpi, .inl (cB, np, .inl (fp)))]) [0, 1, 2, 3, 4, 5, 6] (by decide) rfl
  have hK9 := hK.sub (tys' := [(cD, .object R_D), (cR, .object R_V), (cB, .byte)]) [0, 1, 2] rfl
  have tw_at : ∀ w ∈ vx_at0 "TextKeeper" 148 "java/lang/IllegalArgumentException" ["java/lang/RuntimeException", "java/lang/Exception"], w.before _ s = true := vx_hat (fun w h => hw0 w (twA_1 w h)) twA_2 (fun w h => va_Nw.use (nw0_tab w h) (hN.1 w h))
  exact vx_throw0 (names := ["java/lang/RuntimeException", "java/lang/Exception"]) (ik := 146) (ic := 148) (A := A) hx hb hl9 hown (by decide +kernel) (by decide +kernel) (hw0 (.classLink "TextKeeper" 146 "java/lang/IllegalArgumentException") wm_68) (hw0 (.initialized "java/lang/IllegalArgumentException") wm_5) tw_at twA_g hTwA.1 hTwA.2 hS (by rw [hml]; exact hl.1) d_K_revision_115 d_K_revision_118 d_K_revision_119 d_K_revision_122 (fun x hx => (htab x hx).elim) (by decide +kernel) (by decide +kernel) (by decide +kernel) (by decide +kernel) hlocks (fun t hvm hz hk => ⟨(), trivial, ⟨rfl, hP9.kept (fun k q hq => hk _ ((hP9 k q hq).lt)), va_K.moved hvm hK9, hD9⟩, Nat.le_trans hS.1 hz, fun q h hn => (hk q (Nat.lt_of_lt_of_le h hS.1)).trans (hS.2.1 q h hn)⟩) hS.2.2 (by decide +kernel) (by decide +kernel)
end
section
abbrev KX : Type := (Nat) × (Nat) × (Nat) × (Nat) × (Nat) × (Nat) × (Nat) × (Nat) × (Nat) × (Nat) × (Nat) × (Nat) × (Nat) × (Nat) × (Nat) × (Int32) × (Int32) × (Int32) × (Int32) × (Int32) × (Int32) × (Value) × (Nat) × (Nat) × (Nat) × (Nat) × (Nat) × (Nat) × (Nat → Int32) × (Nat → Int32) × (Nat → Int32) × (Nat → Int32) × (Nat → Int32) × (Nat → Int32)
abbrev KX.hd (x : KX) : Nat := x.1
abbrev KX.hb1 (x : KX) : Nat := x.2.1
abbrev KX.hy (x : KX) : Nat := x.2.2.1
abbrev KX.hf (x : KX) : Nat := x.2.2.2.1
abbrev KX.hfy (x : KX) : Nat := x.2.2.2.2.1
abbrev KX.hc (x : KX) : Nat := x.2.2.2.2.2.1
abbrev KX.hcy (x : KX) : Nat := x.2.2.2.2.2.2.1
abbrev KX.hmk (x : KX) : Nat := x.2.2.2.2.2.2.2.1
abbrev KX.hta (x : KX) : Nat := x.2.2.2.2.2.2.2.2.1
abbrev KX.hty (x : KX) : Nat := x.2.2.2.2.2.2.2.2.2.1
abbrev KX.hba (x : KX) : Nat := x.2.2.2.2.2.2.2.2.2.2.1
abbrev KX.hby (x : KX) : Nat := x.2.2.2.2.2.2.2.2.2.2.2.1
abbrev KX.hwr (x : KX) : Nat := x.2.2.2.2.2.2.2.2.2.2.2.2.1
abbrev KX.hrw (x : KX) : Nat := x.2.2.2.2.2.2.2.2.2.2.2.2.2.1
abbrev KX.hp (x : KX) : Nat := x.2.2.2.2.2.2.2.2.2.2.2.2.2.2.1
abbrev KX.dw (x : KX) : Int32 := x.2.2.2.2.2.2.2.2.2.2.2.2.2.2.2.1
abbrev KX.gi (x : KX) : Int32 := x.2.2.2.2.2.2.2.2.2.2.2.2.2.2.2.2.1
abbrev KX.wl (x : KX) : Int32 := x.2.2.2.2.2.2.2.2.2.2.2.2.2.2.2.2.2.1
abbrev KX.md (x : KX) : Int32 := x.2.2.2.2.2.2.2.2.2.2.2.2.2.2.2.2.2.2.1
abbrev KX.fs (x : KX) : Int32 := x.2.2.2.2.2.2.2.2.2.2.2.2.2.2.2.2.2.2.2.1
abbrev KX.a0 (x : KX) : Int32 := x.2.2.2.2.2.2.2.2.2.2.2.2.2.2.2.2.2.2.2.2.1
abbrev KX.vp (x : KX) : Value := x.2.2.2.2.2.2.2.2.2.2.2.2.2.2.2.2.2.2.2.2.2.1
abbrev KX.k (x : KX) : Nat := x.2.2.2.2.2.2.2.2.2.2.2.2.2.2.2.2.2.2.2.2.2.2.1
abbrev KX.kb (x : KX) : Nat := x.2.2.2.2.2.2.2.2.2.2.2.2.2.2.2.2.2.2.2.2.2.2.2.1
abbrev KX.q (x : KX) : Nat := x.2.2.2.2.2.2.2.2.2.2.2.2.2.2.2.2.2.2.2.2.2.2.2.2.1
abbrev KX.ku (x : KX) : Nat := x.2.2.2.2.2.2.2.2.2.2.2.2.2.2.2.2.2.2.2.2.2.2.2.2.2.1
abbrev KX.kf (x : KX) : Nat := x.2.2.2.2.2.2.2.2.2.2.2.2.2.2.2.2.2.2.2.2.2.2.2.2.2.2.1
abbrev KX.kc (x : KX) : Nat := x.2.2.2.2.2.2.2.2.2.2.2.2.2.2.2.2.2.2.2.2.2.2.2.2.2.2.2.1
abbrev KX.f (x : KX) : Nat → Int32 := x.2.2.2.2.2.2.2.2.2.2.2.2.2.2.2.2.2.2.2.2.2.2.2.2.2.2.2.2.1
abbrev KX.fb (x : KX) : Nat → Int32 := x.2.2.2.2.2.2.2.2.2.2.2.2.2.2.2.2.2.2.2.2.2.2.2.2.2.2.2.2.2.1
abbrev KX.g (x : KX) : Nat → Int32 := x.2.2.2.2.2.2.2.2.2.2.2.2.2.2.2.2.2.2.2.2.2.2.2.2.2.2.2.2.2.2.1
abbrev KX.fu (x : KX) : Nat → Int32 := x.2.2.2.2.2.2.2.2.2.2.2.2.2.2.2.2.2.2.2.2.2.2.2.2.2.2.2.2.2.2.2.1
abbrev KX.ff (x : KX) : Nat → Int32 := x.2.2.2.2.2.2.2.2.2.2.2.2.2.2.2.2.2.2.2.2.2.2.2.2.2.2.2.2.2.2.2.2.1
abbrev KX.fc (x : KX) : Nat → Int32 := x.2.2.2.2.2.2.2.2.2.2.2.2.2.2.2.2.2.2.2.2.2.2.2.2.2.2.2.2.2.2.2.2.2
def kW (h0 : Nat) (cB cD cR : ClassId) (x : KX) (ds : Nat → Option Dc) : va_W := ([(h0, .inr (0, [.ref x.hd, .ref x.hb1, .ref x.hf, .ref x.hc, .ref x.hmk, .ref x.hwr, .ref x.hp, .int x.md, .int x.fs])), (x.hp, .inr (4, [.int x.dw, .int x.gi, .int x.wl])), (x.hd, .inl (cD, 8, .inr (.inr (.inr (.inr ((dsA ds))))))), (x.hmk, .inr (2, [.ref x.hba, .ref x.hta, x.vp, .int x.a0])), (x.hta, .inr (1, [.ref x.hty, .int (nI x.k)])), (x.hty, .inl (cB, 256, .inl (x.f))), (x.hba, .inr (1, [.ref x.hby, .int (nI x.kb)])), (x.hby, .inl (cB, 256, .inl (x.fb))), (x.hwr, .inr (3, [.ref x.hrw, .int (nI x.q)])), (x.hrw, .inl (cB, 512, .inl (x.g))), (x.hb1, .inr (1, [.ref x.hy, .int (nI x.ku)])), (x.hy, .inl (cB, 256, .inl (x.fu))), (x.hf, .inr (1, [.ref x.hfy, .int (nI x.kf)])), (x.hfy, .inl (cB, 256, .inl (x.ff))), (x.hc, .inr (1, [.ref x.hcy, .int (nI x.kc)])), (x.hcy, .inl (cB, 256, .inl (x.fc)))] : va_W) ++ pW cB cR ds
abbrev kT (cB cD cR : ClassId) : List (ClassId × FieldType) := [(cB, .byte), (cD, .object R_D), (cR, .object R_V)]
def kOk (σ : Sg) (x : KX) (ds : Nat → Option Dc) : Prop := (x.dw = bI σ.down) ∧ (σ.down = false → x.gi = bI σ.go.isSome ∧ ∀ w, σ.go = some w → x.wl = nI w) ∧ (x.md = nI σ.nd) ∧ (x.fs = σ.stp) ∧ (σ.ds = dsM ds) ∧ (dsOk ds) ∧ (∀ i d j, ds i = some d → d.first ≤ j → j < d.count → ∃ r, d.rv j = some r) ∧ (tx σ.buf x.ku x.fu ∧ x.ku ≤ 256) ∧ (tx σ.fet x.kf x.ff ∧ x.kf ≤ 256) ∧ (∃ T, tx T x.k x.f ∧ x.k ≤ 256) ∧ (∃ T, tx T x.kb x.fb ∧ x.kb ≤ 256) ∧ (∃ T, tx T x.kc x.fc ∧ x.kc ≤ 256)
theorem kOk.dw {σ : Sg} {x : KX} {ds : Nat → Option Dc} (h : kOk σ x ds) : x.dw = bI σ.down := h.1
theorem kOk.gi {σ : Sg} {x : KX} {ds : Nat → Option Dc} (h : kOk σ x ds) : σ.down = false → x.gi = bI σ.go.isSome ∧ ∀ w, σ.go = some w → x.wl = nI w := h.2.1
theorem kOk.md {σ : Sg} {x : KX} {ds : Nat → Option Dc} (h : kOk σ x ds) : x.md = nI σ.nd := h.2.2.1
theorem kOk.fs {σ : Sg} {x : KX} {ds : Nat → Option Dc} (h : kOk σ x ds) : x.fs = σ.stp := h.2.2.2.1
theorem kOk.ds {σ : Sg} {x : KX} {ds : Nat → Option Dc} (h : kOk σ x ds) : σ.ds = dsM ds := h.2.2.2.2.1
theorem kOk.ok {σ : Sg} {x : KX} {ds : Nat → Option Dc} (h : kOk σ x ds) : dsOk ds := h.2.2.2.2.2.1
theorem kOk.kp {σ : Sg} {x : KX} {ds : Nat → Option Dc} (h : kOk σ x ds) : ∀ i d j, ds i = some d → d.first ≤ j → j < d.count → ∃ r, d.rv j = some r := h.2.2.2.2.2.2.1
theorem kOk.bu {σ : Sg} {x : KX} {ds : Nat → Option Dc} (h : kOk σ x ds) : tx σ.buf x.ku x.fu ∧ x.ku ≤ 256 := h.2.2.2.2.2.2.2.1
theorem kOk.fe {σ : Sg} {x : KX} {ds : Nat → Option Dc} (h : kOk σ x ds) : tx σ.fet x.kf x.ff ∧ x.kf ≤ 256 := h.2.2.2.2.2.2.2.2.1
theorem kOk.mt {σ : Sg} {x : KX} {ds : Nat → Option Dc} (h : kOk σ x ds) : ∃ T, tx T x.k x.f ∧ x.k ≤ 256 := h.2.2.2.2.2.2.2.2.2.1
theorem kOk.mb {σ : Sg} {x : KX} {ds : Nat → Option Dc} (h : kOk σ x ds) : ∃ T, tx T x.kb x.fb ∧ x.kb ≤ 256 := h.2.2.2.2.2.2.2.2.2.2.1
theorem kOk.cm {σ : Sg} {x : KX} {ds : Nat → Option Dc} (h : kOk σ x ds) : ∃ T, tx T x.kc x.fc ∧ x.kc ≤ 256 := h.2.2.2.2.2.2.2.2.2.2.2
theorem kOk.mk {σ : Sg} {x : KX} {ds : Nat → Option Dc} (h0 : x.dw = bI σ.down) (h1 : σ.down = false → x.gi = bI σ.go.isSome ∧ ∀ w, σ.go = some w → x.wl = nI w) (h2 : x.md = nI σ.nd) (h3 : x.fs = σ.stp) (h4 : σ.ds = dsM ds) (h5 : dsOk ds) (h6 : ∀ i d j, ds i = some d → d.first ≤ j → j < d.count → ∃ r, d.rv j = some r) (h7 : tx σ.buf x.ku x.fu ∧ x.ku ≤ 256) (h8 : tx σ.fet x.kf x.ff ∧ x.kf ≤ 256) (h9 : ∃ T, tx T x.k x.f ∧ x.k ≤ 256) (h10 : ∃ T, tx T x.kb x.fb ∧ x.kb ≤ 256) (h11 : ∃ T, tx T x.kc x.fc ∧ x.kc ≤ 256) : kOk σ x ds := ⟨h0, h1, h2, h3, h4, h5, h6, h7, h8, h9, h10, h11⟩
end
section
theorem sub_z {α : Type} {S L : List α} (h : S.Sublist L) : ∃ z, L.Perm (S ++ z) := by
  induction h with
  | slnil => exact ⟨[], List.Perm.refl _⟩
  | cons a _ ih =>
    obtain ⟨z, hz⟩ := ih
    exact ⟨a :: z, (hz.cons a).trans List.perm_middle.symm⟩
  | cons_cons a _ ih =>
    obtain ⟨z, hz⟩ := ih
    exact ⟨z, hz.cons a⟩
theorem pick_map {α : Type} (l : List α) : (List.range l.length).map (fun i => l[i]?) = l.map some := by
  apply List.ext_getElem?
  intro i
  rcases Nat.lt_or_ge i l.length with h | h
  · simp [List.getElem?_map, List.getElem?_range h, List.getElem?_eq_getElem h]
  · simp [List.getElem?_map, List.getElem?_eq_none, h]
theorem pick {α : Type} {l l' : List α} (is : List Nat) (n : Nat) (hl : l.length = n) (hn : is.isPerm (List.range n) = true) (hs : is.map (fun i => l[i]?) = l'.map some) : l.Perm l' := by
  have h1 := (List.isPerm_iff.mp hn).map (fun i => l[i]?)
  rw [hs, ← hl, pick_map] at h1
  have h2 := h1.filterMap id
  simp at h2
  exact h2.symm
theorem va_P_iff {D : va_G} {cl : List vw_C} {ws : va_W} {H : Heap} : va_P D cl ws H ↔ ∀ q ∈ ws, va_at D cl q H := by
  constructor
  · intro h q hq
    obtain ⟨i, hi⟩ := List.getElem?_of_mem hq
    exact h i q hi
  · intro h k q hk
    exact h q (List.mem_of_getElem? hk)
theorem va_A_iff {ws : va_W} {sz q : Nat} : va_A ws sz q ↔ (∃ e, (q, e) ∈ ws) ∨ sz ≤ q := by
  constructor
  · intro h
    rcases h with ⟨k, e, hk⟩ | h
    · exact Or.inl ⟨e, List.mem_of_getElem? hk⟩
    · exact Or.inr h
  · intro h
    rcases h with ⟨e, he⟩ | h
    · obtain ⟨k, hk⟩ := List.getElem?_of_mem he
      exact Or.inl ⟨k, e, hk⟩
    · exact Or.inr h
theorem va_A_up {ws wr W : va_W} {sz q : Nat} (hp : W.Perm (ws ++ wr)) (h : va_A ws sz q) : va_A W sz q := by
  rw [va_A_iff] at h ⊢
  rcases h with ⟨e, he⟩ | h
  · exact Or.inl ⟨e, hp.mem_iff.mpr (List.mem_append_left _ he)⟩
  · exact Or.inr h
theorem fr_off {D : va_G} {ws wr : va_W} {H : Heap} (hP : va_P D vwCl (ws ++ wr) H) (hD : va_D (fun _ => True) (ws ++ wr)) {q : Nat × va_E} (hq : q ∈ wr) : ¬ va_A ws H.size q.1 := by
  rw [va_P_iff] at hP
  rw [va_D_iff] at hD
  intro h
  rw [va_A_iff] at h
  rcases h with ⟨e, he⟩ | h
  · exact (List.pairwise_append.mp hD.1).2.2 _ he _ hq rfl
  · have := (hP q (List.mem_append_right _ hq)).lt
    omega
theorem fr_in {D : va_G} {W ws wr : va_W} {tys tys' : List (ClassId × FieldType)} {sz : Nat} {U : State} (is : List Nat) (h : pc_E D W tys' sz U) (hp : W.Perm (ws ++ wr)) (ht : is.filterMap (fun i => tys'[i]?) = tys) : pc_E D ws tys sz U :=
  ⟨h.1, (h.2.1.perm hp).left, h.2.2.1.sub is ht, (h.2.2.2.1.perm hp).left, h.2.2.2.2⟩
theorem fr_wld {D : va_G} {W ws wr ws2 W2 : va_W} {H H1 : Heap} {A : Nat → Prop} (hA : ∀ q : Nat, H.size ≤ q → A q) (hP : va_P D vwCl W H) (hD : va_D A W) (hp : W.Perm (ws ++ wr)) (hF : ∀ q : Nat, q < H.size → ¬ va_A ws H.size q → H1[q]? = H[q]?) (hP1 : va_P D vwCl ws2 H1) (hD1 : va_D (va_A ws H.size) ws2) (hz : ∃ z, (ws2 ++ wr).Perm (W2 ++ z)) : va_P D vwCl W2 H1 ∧ va_D A W2 := by
  have hP := hP.perm hp
  have hD := hD.perm hp
  have hoff := fun {q : Nat × va_E} (hq : q ∈ wr) => fr_off hP (hD.weaken (fun _ _ _ _ => trivial)) hq
  obtain ⟨z, hz⟩ := hz
  have hP2 : va_P D vwCl (ws2 ++ wr) H1 := by
    rw [va_P_iff] at hP hP1 ⊢
    intro q hq
    rcases List.mem_append.mp hq with hq | hq
    · exact hP1 q hq
    · have h9 := hP q (List.mem_append_right _ hq)
      exact h9.kept (hF _ h9.lt (hoff hq))
  have hD2 : va_D A (ws2 ++ wr) := by
    rw [va_D_iff] at hD hD1 ⊢
    have hap := List.pairwise_append.mp hD.1
    refine ⟨List.pairwise_append.mpr ⟨hD1.1, hap.2.1, fun x hx y hy e => ?_⟩, fun q hq => ?_⟩
    · exact hoff hy (e ▸ hD1.2 x hx)
    · rcases List.mem_append.mp hq with hq | hq
      · have h9 := hD1.2 q hq
        rw [va_A_iff] at h9
        rcases h9 with ⟨e, he⟩ | h9
        · exact hD.2 (q.1, e) (List.mem_append_left _ he)
        · exact hA _ h9
      · exact hD.2 q (List.mem_append_right _ hq)
  exact ⟨(hP2.perm hz).left, (hD2.perm hz).left⟩
theorem fr_out {D : va_G} {W ws wr ws2 W2 : va_W} {tys tys' : List (ClassId × FieldType)} {sz : Nat} {U t : State} (h : pc_E D W tys' sz U) (hp : W.Perm (ws ++ wr)) (hvm : U.vm.Alike t.vm) (hF : va_F (va_A ws sz) U t) (hat : at_E D (va_A ws sz) ws2 tys t) (hz : ∃ z, (ws2 ++ wr).Perm (W2 ++ z)) : at_E D (va_A W sz) W2 tys' t := by
  obtain ⟨rfl, h1, h2, h3, -⟩ := h
  obtain ⟨p1, -, d1⟩ := hat
  obtain ⟨a, b⟩ := fr_wld (A := va_A W U.heap.size) (fun q hq => va_A_iff.mpr (Or.inr hq)) h1 (va_D_iff.mpr ⟨(va_D_iff.mp h3).1, fun q hq => va_A_iff.mpr (Or.inl ⟨q.2, hq⟩)⟩) hp hF.2 p1 d1 hz
  exact ⟨a, va_K.moved hvm h2, b⟩
theorem va_F.up {ws wr W : va_W} {sz : Nat} {st t : State} (hp : W.Perm (ws ++ wr)) (h : va_F (va_A ws sz) st t) : va_F (va_A W sz) st t := ⟨h.1, fun q hq hn => h.2 q hq (fun z => hn (va_A_up hp z))⟩
theorem k_room {s : State} {pl : Platform} {r q : Room} (h : s.hasRoom pl q = true) (hf : r.frames ≤ q.frames) (hl : r.locals ≤ q.locals) (hc : r.cells ≤ q.cells) (hs : r.slots ≤ q.slots) : s.hasRoom pl r = true := by
  unfold State.hasRoom at h ⊢
  simp only [Bool.and_eq_true, decide_eq_true_eq] at h ⊢
  obtain ⟨⟨⟨⟨h1, h2⟩, h3⟩, h4⟩, h5⟩ := h
  have h6 := h2.1
  have h7 := h2.2.1
  have h8 := h2.2.2.1
  have h9 := h2.2.2.2.1
  refine ⟨⟨⟨⟨?_, ?_, ?_, ?_, ?_, h2.2.2.2.2⟩, ?_⟩, ?_⟩, h5⟩
  all_goals omega
theorem k_spec {l : Launch} {x : MethodName} {ts : List Cond} {r q : Room} {P : Array Value → State → Prop} {K : Program → Env → List Frame → State → Array Value → Prop} {Q : Array Value → State → Outcome → State → Prop} (h : MetFree l x (headSpec ts r) P K Q) (hf : r.frames ≤ q.frames) (hl : r.locals ≤ q.locals) (hc : r.cells ≤ q.cells) (hs : r.slots ≤ q.slots) : MetFree l x (headSpec ts q) P K Q := by
  intro p e ha hcs hk s m args below hfr happ hP hK
  refine h p e ha hcs hk s m args below hfr ?_ hP hK
  obtain ⟨a1, a2, a3, a4, a5, a6, a7, a8⟩ := (Spec.appliesLoose_iff hfr).mp happ
  exact (Spec.appliesLoose_iff hfr).mpr ⟨a1, a2, a3, a4, a5, a6, k_room a7 hf hl hc hs, a8⟩
abbrev kRm : Room := { frames := 8, cells := 2, slots := 264, locals := 150 }
def kFr (D : va_G) (W ws wr : va_W) (tys' : List (ClassId × FieldType)) (sz : Nat) (t : State) : Prop := ∀ (ws2 W2 : va_W) (tys2 : List (ClassId × FieldType)), at_E D (va_A ws sz) ws2 tys2 t → (∃ z, (ws2 ++ wr).Perm (W2 ++ z)) → at_E D (va_A W sz) W2 tys' t
theorem kRet {l : Launch} {y : MethodName} {kk : List Cond} {fr ce sl lo mc ms sz : Nat} {D : va_G} {av : List Value} {W ws wr : va_W} {tys tys' : List (ClassId × FieldType)} {post : Int32 → Unit → Prop} {Bt : Unit → State → Prop} {QR : Int32 → Prop} {QB : State → Prop} {XC : String → State → State → Prop}
    (hM : Met l y kk ({ frames := fr, cells := ce, slots := sl, locals := lo } : Room) (va_Pc av (pc_E D ws tys sz)) (va_Qi post Bt (va_A ws sz)) mc ms (va_A ws sz)) (hr : fr ≤ 8 ∧ ce ≤ 2 ∧ sl ≤ 264 ∧ lo ≤ 150 ∧ mc ≤ 2 ∧ ms ≤ 264) (hp : W.Perm (ws ++ wr)) (is : List Nat) (ht : is.filterMap (fun i => tys'[i]?) = tys)
    (hpost : ∀ r, post r () → QR r) (hB : ∀ t, Bt () t → kFr D W ws wr tys' sz t → QB t) :
    vx_Met l y kk kRm (va_Pc av (fun U => pc_E D W tys' sz U ∧ tw_ok U)) (va_Qi (fun r (_ : Unit) => QR r) (fun _ t => QB t) (va_A W sz)) XC 2 264 (va_A W sz) := by
  have h1 := k_spec (q := kRm) hM hr.1 hr.2.2.2.1 hr.2.1 hr.2.2.1
  intro p e ha hcs hk s m args below hfr happ hP hK
  obtain ⟨hav, hpc, -⟩ := hP
  obtain ⟨n, o, g1, g2, g3, ⟨⟨r, u, ho, hpo, hb⟩, hF⟩, L, hfe, hL⟩ := h1 p e ha hcs hk s m args below hfr happ ⟨hav, fr_in is hpc hp ht⟩ trivial
  refine ⟨n, o, g1, g2, g3, Or.inl ⟨⟨⟨r, (), ho, hpost r hpo, hB _ hb (fun ws2 W2 tys2 hat hz => fr_out hpc hp hfe.2.1.alike hF hat hz)⟩, hF.up hp⟩, L, ⟨hfe.1, hfe.2.1, hfe.2.2.mono hr.2.2.2.2.1 hr.2.2.2.2.2⟩, fun q hq => va_A_up hp (hL q hq)⟩⟩
theorem kPur {l : Launch} {y : MethodName} {kk : List Cond} {fr ce sl lo sz : Nat} {D : va_G} {av : List Value} {W ws wr : va_W} {tys tys' : List (ClassId × FieldType)} {post : Int32 → Prop} {QR : Int32 → Prop} {QB : State → Prop} {XC : String → State → State → Prop}
    (hM : Met l y kk ({ frames := fr, cells := ce, slots := sl, locals := lo } : Room) (va_Pc av (pc_R D ws tys)) (vp_Si post) 0 0 (fun _ => False)) (hr : fr ≤ 8 ∧ ce ≤ 2 ∧ sl ≤ 264 ∧ lo ≤ 150) (hp : W.Perm (ws ++ wr)) (is : List Nat) (ht : is.filterMap (fun i => tys'[i]?) = tys)
    (hpost : ∀ r, post r → QR r) (hB : ∀ t, at_E D (va_A W sz) W tys' t → QB t) :
    vx_Met l y kk kRm (va_Pc av (fun U => pc_E D W tys' sz U ∧ tw_ok U)) (va_Qi (fun r (_ : Unit) => QR r) (fun _ t => QB t) (va_A W sz)) XC 2 264 (va_A W sz) := by
  have h1 := k_spec (q := kRm) hM hr.1 hr.2.2.2 hr.2.1 hr.2.2.1
  intro p e ha hcs hk s m args below hfr happ hP hK
  obtain ⟨hav, hpc, -⟩ := hP
  obtain ⟨n, o, g1, g2, g3, ⟨r, ho, hpo, hh⟩, L, hfe, hL⟩ := h1 p e ha hcs hk s m args below hfr happ ⟨hav, (hpc.2.1.perm hp).left, hpc.2.2.1.sub is ht, hpc.2.2.2.2⟩ trivial
  refine ⟨n, o, g1, g2, g3, Or.inl ⟨⟨⟨r, (), ho, hpost r hpo, hB _ ⟨by rw [hh]; exact hpc.2.1, va_K.moved hfe.2.1.alike hpc.2.2.1, va_D_iff.mpr ⟨(va_D_iff.mp hpc.2.2.2.1).1, fun q hq => va_A_iff.mpr (Or.inl ⟨q.2, hq⟩)⟩⟩⟩, ⟨by rw [hh]; exact Nat.le_refl _, fun q _ _ => by rw [hh]⟩⟩, L, ⟨hfe.1, hfe.2.1, hfe.2.2.mono (Nat.zero_le _) (Nat.zero_le _)⟩, fun q hq => (hL q hq).elim⟩⟩
theorem kThr {l : Launch} {y : MethodName} {kk : List Cond} {fr ce sl lo mc ms sz : Nat} {D : va_G} {av : List Value} {W ws wr : va_W} {tys tys' : List (ClassId × FieldType)} {A9 : Nat → Prop} {BX QX : String → State → Prop} {QR : Int32 → Prop} {QB : State → Prop}
    (hM : vx_Met l y kk ({ frames := fr, cells := ce, slots := sl, locals := lo } : Room) (va_Pc av (fun U => pc_E D ws tys sz U ∧ tw_ok U)) (va_Qi (fun (_ : Int32) (_ : Unit) => False) (fun _ _ => True) A9) (vx_X (fun _ : Unit => True) (fun E _ t => BX E t) (va_A ws sz)) mc ms (va_A ws sz)) (hr : fr ≤ 8 ∧ ce ≤ 2 ∧ sl ≤ 264 ∧ lo ≤ 150 ∧ mc ≤ 2 ∧ ms ≤ 264) (hp : W.Perm (ws ++ wr)) (is : List Nat) (ht : is.filterMap (fun i => tys'[i]?) = tys)
    (hB : ∀ E t, BX E t → kFr D W ws wr tys' sz t → QX E t) :
    vx_Met l y kk kRm (va_Pc av (fun U => pc_E D W tys' sz U ∧ tw_ok U)) (va_Qi (fun r (_ : Unit) => QR r) (fun _ t => QB t) (va_A W sz)) (vx_X (fun _ : Unit => True) (fun E _ t => QX E t) (va_A W sz)) 2 264 (va_A W sz) := by
  have h1 := k_spec (q := kRm) hM hr.1 hr.2.2.2.1 hr.2.1 hr.2.2.1
  intro p e ha hcs hk s m args below hfr happ hP hK
  obtain ⟨hav, hpc, htw⟩ := hP
  obtain ⟨n, o, g1, g2, g3, hq⟩ := h1 p e ha hcs hk s m args below hfr happ ⟨hav, fr_in is hpc hp ht, htw⟩ trivial
  refine ⟨n, o, g1, g2, g3, ?_⟩
  rcases hq with ⟨⟨⟨r, u, -, hf, -⟩, -⟩, -⟩ | ⟨q, ho, E, ce9, L, ⟨u, -, hb, hF⟩, q1, q2, q3, q4, q5, q6⟩
  · exact hf.elim
  · exact Or.inr ⟨q, ho, E, ce9, L, ⟨(), trivial, hB E _ hb (fun ws2 W2 tys2 hat hz => fr_out hpc hp q4.alike hF hat hz), hF.up hp⟩, q1, q2, q3, q4, q5.mono hr.2.2.2.2.1 hr.2.2.2.2.2, fun z hz => va_A_up hp (q6 z hz)⟩
theorem fr_free {W ws wr : va_W} {A : Nat → Prop} {H0 H : Heap} {locs : List Loc} (hD : va_D A W) (hS : va_S A H0 H locs) (hA : ∀ q : Nat, H0.size ≤ q → A q) (hp : W.Perm (ws ++ wr)) : ∀ q : Nat, va_A ws H.size q → A q := by
  intro q h
  rw [va_A_iff] at h
  rcases h with ⟨e, he⟩ | h
  · exact (va_D_iff.mp hD).2 (q, e) (hp.mem_iff.mpr (List.mem_append_left _ he))
  · exact hA q (Nat.le_trans hS.1 h)
end
section
theorem km {X X1 X2 P Y Z : va_W} (hx : X.Perm (X1 ++ X2)) (hp : P.Perm (Y ++ Z)) : (X ++ P).Perm ((X1 ++ Y) ++ (X2 ++ Z)) := by
  refine (hx.append hp).trans ?_
  rw [List.append_assoc, List.append_assoc]
  refine List.Perm.append_left X1 ?_
  rw [← List.append_assoc, ← List.append_assoc]
  exact List.perm_append_comm.append_right Z
theorem kmp {X X1 X2 P Y Z : va_W} (hx : X.Perm (X1 ++ X2)) (hp : P.Perm (Y ++ Z)) : (X ++ P).Perm (((X1 ++ Y) ++ Z) ++ X2) := by
  refine (km hx hp).trans ?_
  rw [List.append_assoc (X1 ++ Y) Z X2]
  exact List.perm_append_comm.append_left (X1 ++ Y)
theorem kz {A B : va_W} (h : B.Perm A) : ∃ z, A.Perm (B ++ z) := ⟨[], by rw [List.append_nil]; exact h.symm⟩
theorem kzl {A B C z : va_W} (h : C.Perm A) (h2 : C.Perm (B ++ z)) : ∃ z, A.Perm (B ++ z) := ⟨z, h.symm.trans h2⟩
def kR (z : Sg × Int32 × Int32) (r : Int32) : Prop := z.2.1 = 0 ∧ r = z.2.2
def kE (ex : Int32 → String) (z : Sg × Int32 × Int32) (E : String) : Prop := ¬ z.2.1 = 0 ∧ E = ex z.2.1
def kB (D : va_G) (h0 : Nat) (cB cD cR : ClassId) (σ : Sg) (A : Nat → Prop) (t : State) : Prop := ∃ (x2 : KX) (ds2 : Nat → Option Dc), kOk σ x2 ds2 ∧ at_E D A (kW h0 cB cD cR x2 ds2) (kT cB cD cR) t
def kMet (l : Launch) (y : MethodName) (kk : List Cond) (ex : Int32 → String) (D : va_G) (sz h0 : Nat) (cB cD cR : ClassId) (x : KX) (ds : Nat → Option Dc) (av : List Value) (z : Sg × Int32 × Int32) : Prop :=
  vx_Met l y kk kRm (va_Pc av (fun U => pc_E D (kW h0 cB cD cR x ds) (kT cB cD cR) sz U ∧ tw_ok U)) (va_Qi (fun r (_ : Unit) => kR z r) (fun _ t => kB D h0 cB cD cR z.1 (va_A (kW h0 cB cD cR x ds) sz) t) (va_A (kW h0 cB cD cR x ds) sz)) (vx_X (fun _ : Unit => True) (fun E _ t => kE ex z E ∧ kB D h0 cB cD cR z.1 (va_A (kW h0 cB cD cR x ds) sz) t) (va_A (kW h0 cB cD cR x ds) sz)) 2 264 (va_A (kW h0 cB cD cR x ds) sz)
def ex1 (_ : Int32) : String := "java/lang/IllegalStateException"
def ex3 (k : Int32) : String := if k = 1 then "java/util/NoSuchElementException" else if k = 2 then "java/lang/IllegalArgumentException" else "java/lang/IllegalStateException"
section KM
variable {l : Launch} {y : MethodName} {kk : List Cond} {ex : Int32 → String} {fr ce sl lo mc ms sz h0 : Nat} {D : va_G} {cB cD cR : ClassId} {x : KX} {ds : Nat → Option Dc} {av : List Value} {ws wr : va_W} {tys : List (ClassId × FieldType)} {σ : Sg}
theorem kPure {v : Int32} (hM : Met l y kk ({ frames := fr, cells := ce, slots := sl, locals := lo } : Room) (va_Pc av (pc_R D ws tys)) (vp_Si (fun r => r = v)) 0 0 (fun _ => False)) (hr : fr ≤ 8 ∧ ce ≤ 2 ∧ sl ≤ 264 ∧ lo ≤ 150) (hp : (kW h0 cB cD cR x ds).Perm (ws ++ wr)) (is : List Nat) (ht : is.filterMap (fun i => (kT cB cD cR)[i]?) = tys) (hk : kOk σ x ds) : kMet l y kk ex D sz h0 cB cD cR x ds av (σ, 0, v) :=
  kPur hM hr hp is ht (fun _ h => ⟨rfl, h⟩) (fun _ h => ⟨x, ds, hk, h⟩)
theorem kDown {v : Int32} {A9 : Nat → Prop} (hM : vx_Met l y kk ({ frames := fr, cells := ce, slots := sl, locals := lo } : Room) (va_Pc av (fun U => pc_E D ws tys sz U ∧ tw_ok U)) (va_Qi (fun (_ : Int32) (_ : Unit) => False) (fun _ _ => True) A9) (vx_X (fun _ : Unit => True) (fun E _ t => E = "java/lang/IllegalStateException" ∧ at_E D (va_A ws sz) ws tys t) (va_A ws sz)) mc ms (va_A ws sz)) (hr : fr ≤ 8 ∧ ce ≤ 2 ∧ sl ≤ 264 ∧ lo ≤ 150 ∧ mc ≤ 2 ∧ ms ≤ 264) (hp : (kW h0 cB cD cR x ds).Perm (ws ++ wr)) (is : List Nat) (ht : is.filterMap (fun i => (kT cB cD cR)[i]?) = tys) (hk : kOk σ x ds) (hv : ¬ v = 0) (he : ex v = "java/lang/IllegalStateException") : kMet l y kk ex D sz h0 cB cD cR x ds av (σ, v, 0) :=
  kThr hM hr hp is ht (fun E t h fr9 => ⟨⟨hv, h.1.trans he.symm⟩, x, ds, hk, fr9 _ _ _ h.2 (kz hp)⟩)
theorem kThrow {v : Int32} {e9 : String} {A9 : Nat → Prop} (hM : vx_Met l y kk ({ frames := fr, cells := ce, slots := sl, locals := lo } : Room) (va_Pc av (fun U => pc_E D ws tys sz U ∧ tw_ok U)) (va_Qi (fun (_ : Int32) (_ : Unit) => False) (fun _ _ => True) A9) (vx_X (fun _ : Unit => True) (fun E _ t => E = e9 ∧ at_E D (va_A ws sz) ws tys t) (va_A ws sz)) mc ms (va_A ws sz)) (hr : fr ≤ 8 ∧ ce ≤ 2 ∧ sl ≤ 264 ∧ lo ≤ 150 ∧ mc ≤ 2 ∧ ms ≤ 264) (hp : (kW h0 cB cD cR x ds).Perm (ws ++ wr)) (is : List Nat) (ht : is.filterMap (fun i => (kT cB cD cR)[i]?) = tys) (hk : kOk σ x ds) (hv : ¬ v = 0) (he : ex v = e9) : kMet l y kk ex D sz h0 cB cD cR x ds av (σ, v, 0) :=
  kThr hM hr hp is ht (fun E t h fr9 => ⟨⟨hv, h.1.trans he.symm⟩, x, ds, hk, fr9 _ _ _ h.2 (kz hp)⟩)
end KM
theorem kdocN {σ : Sg} {x : KX} {ds : Nat → Option Dc} {a1 : Int32} (hk : kOk σ x ds) (h : dGet σ.ds a1 = none) : atN 8 (dsA ds) a1 = none := by
  unfold atN
  split
  · rfl
  · next q =>
    rcases dGet_none h with z | z | z
    · exact absurd (Or.inl z) q
    · exact absurd (Or.inr z) q
    · rw [hk.ds] at z
      unfold dsM at z
      unfold dsA
      cases e : ds a1.toNatClampNeg with
      | none => rfl
      | some d => rw [e] at z; cases z
theorem kdocS {σ : Sg} {x : KX} {ds : Nat → Option Dc} {a1 : Int32} {i : Nat} {dm : Dm} (hs : sOk σ) (hk : kOk σ x ds) (h : dGet σ.ds a1 = some (i, dm)) : ∃ d : Dc, i < 8 ∧ a1 = nI i ∧ ds i = some d ∧ dm = dcM d ∧ atN 8 (dsA ds) (nI i) = some d.a ∧ d.count ≤ 64 ∧ rvOk d.rv ∧ (∀ j, d.first ≤ j → j < d.count → ∃ r, d.rv j = some r) ∧ dmOk (dcM d) := by
  obtain ⟨h1, h2, h3⟩ := dGet_some h
  have hok := (hs.ds i dm h3).2
  rw [hk.ds] at h3
  unfold dsM at h3
  cases e : ds i with
  | none => rw [e] at h3; cases h3
  | some d =>
    rw [e] at h3
    cases h3
    refine ⟨d, h1, h2, rfl, rfl, ?_, (hk.ok i d e).1, (hk.ok i d e).2, fun j => hk.kp i d j e, hok⟩
    rw [atN_nI (by decide) h1]
    exact dsA_s e
theorem kask {d : Dc} {a2 : Int32} (hf : d.first ≤ d.count) (hc : d.count ≤ 64) (h : ¬ (a2 < nI d.first ∨ nI d.count ≤ a2)) : ∃ r9, a2 = nI r9 ∧ d.first ≤ r9 ∧ r9 < d.count ∧ a2.toNatClampNeg = r9 := by
  have h1 : ¬ a2 < nI d.first := fun z => h (Or.inl z)
  have h2 : ¬ nI d.count ≤ a2 := fun z => h (Or.inr z)
  have h3 : ¬ a2 < 0 := fun z => h1 (Int32.lt_of_lt_of_le z (nI_pos' (by omega)))
  obtain ⟨j, hj, rfl⟩ := nI_of h3
  refine ⟨j, rfl, ?_, ?_, nI_clamp hj⟩
  · rcases Nat.lt_or_ge j d.first with q | q
    · exact absurd (nI_lt q (by omega)) h1
    · exact q
  · rcases Nat.lt_or_ge j d.count with q | q
    · exact q
    · exact absurd (nI_le q hj) h2
theorem krj {d : Dc} {a2 : Int32} (hc : d.count ≤ 64) (h : ¬ (a2 < 0 ∨ nI d.count ≤ a2)) : ∃ j, a2 = nI j ∧ j < d.count ∧ j < 64 ∧ a2.toNatClampNeg = j := by
  have h1 : ¬ a2 < 0 := fun z => h (Or.inl z)
  have h2 : ¬ nI d.count ≤ a2 := fun z => h (Or.inr z)
  obtain ⟨j, hj, rfl⟩ := nI_of h1
  have : j < d.count := by
    rcases Nat.lt_or_ge j d.count with q | q
    · exact q
    · exact absurd (nI_le q hj) h2
  exact ⟨j, rfl, this, by omega, nI_clamp hj⟩
theorem krN1 {d : Dc} {a2 : Int32} (h : a2 < 0 ∨ nI d.count ≤ a2) : atN d.count (rvA d.rv) a2 = none := if_pos h
theorem krN2 {d : Dc} {j : Nat} (hc : d.count ≤ 64) (hj : j < d.count) (e : d.rv j = none) : atN d.count (rvA d.rv) (nI j) = none := by
  rw [atN_nI (by omega) hj]
  exact rvA_n e
theorem krS {d : Dc} {j : Nat} {r : Rc} (hc : d.count ≤ 64) (hj : j < d.count) (e : d.rv j = some r) : atN d.count (rvA d.rv) (nI j) = some r.a := by
  rw [atN_nI (by omega) hj]
  exact rvA_s e
theorem krG0 {ds : Nat → Option Dm} {a1 a2 : Int32} {i : Nat} {d : Dc} (hd : dGet ds a1 = some (i, dcM d)) (h : a2 < 0 ∨ nI d.count ≤ a2) : rGet ds a1 a2 = none := by
  unfold rGet
  rw [hd]
  exact if_pos h
theorem krG1 {ds : Nat → Option Dm} {a1 a2 : Int32} {i j : Nat} {d : Dc} (hd : dGet ds a1 = some (i, dcM d)) (h : ¬ (a2 < 0 ∨ nI d.count ≤ a2)) (hj : a2.toNatClampNeg = j) (e : d.rv j = none) : rGet ds a1 a2 = none := by
  unfold rGet
  rw [hd]
  refine (if_neg h).trans ?_
  rw [hj]
  show ((d.rv j).map rcM).map _ = none
  rw [e]
  rfl
theorem krG2 {ds : Nat → Option Dm} {a1 a2 : Int32} {i j : Nat} {d : Dc} {r : Rc} (hd : dGet ds a1 = some (i, dcM d)) (h : ¬ (a2 < 0 ∨ nI d.count ≤ a2)) (hj : a2.toNatClampNeg = j) (e : d.rv j = some r) : rGet ds a1 a2 = some (i, dcM d, j, rcM r) := by
  unfold rGet
  rw [hd]
  refine (if_neg h).trans ?_
  rw [hj]
  show ((d.rv j).map rcM).map _ = _
  rw [e]
  rfl
theorem krGn {ds : Nat → Option Dm} {a1 a2 : Int32} (hd : dGet ds a1 = none) : rGet ds a1 a2 = none := by
  unfold rGet
  rw [hd]
theorem km0 {X X1 X2 P : va_W} (hx : X.Perm (X1 ++ X2)) : (X ++ P).Perm (X1 ++ (X2 ++ P)) := by
  rw [← List.append_assoc]
  exact hx.append_right P
theorem kmp0 {X X1 X2 P : va_W} (hx : X.Perm (X1 ++ X2)) : (X ++ P).Perm ((X1 ++ P) ++ X2) := by
  refine (km0 hx).trans ?_
  rw [List.append_assoc]
  exact List.perm_append_comm.append_left X1
theorem kdr {H R K R2 P : va_W} (h : R.Perm (K ++ R2)) : (H ++ (R ++ P)).Perm ((H ++ K) ++ (R2 ++ P)) := by
  rw [List.append_assoc]
  refine List.Perm.append_left H ?_
  rw [← List.append_assoc]
  exact h.append_right P
theorem kgo {go : Option Nat} {n : Nat} {wl2 : Int32} (h : ∀ w, go = some w → wl2 = nI (w - n)) : bI go.isSome = bI (go.map (· - n)).isSome ∧ ∀ w, go.map (· - n) = some w → wl2 = nI w := by
  cases go with
  | none => exact ⟨rfl, fun w h => by cases h⟩
  | some v => exact ⟨rfl, fun w e => by cases e; exact h v rfl⟩
theorem knd {σ : Sg} {x : KX} {ds : Nat → Option Dc} (hs : sOk σ) (hk : kOk σ x ds) : ds σ.nd = none := by
  cases e : ds σ.nd with
  | none => rfl
  | some d =>
    have h : σ.ds σ.nd = some (dcM d) := by
      rw [hk.ds]
      unfold dsM
      rw [e]
      rfl
    have := (hs.ds _ _ h).1
    omega
theorem kus {σ : Sg} {x : KX} {ds : Nat → Option Dc} (hk : kOk σ x ds) : usd σ.ds 8 = cfr ds 8 := by
  rw [hk.ds]
  exact usd_M ds 8
theorem kle {k : Nat} {a : Int32} (hk : k ≤ 256) (h : ¬ (a < 0 ∨ nI k < a)) : ∃ n9, a = nI n9 ∧ n9 ≤ k ∧ a.toNatClampNeg = n9 := by
  have h1 : ¬ a < 0 := fun z => h (Or.inl z)
  have h2 : ¬ nI k < a := fun z => h (Or.inr z)
  obtain ⟨j, hj, rfl⟩ := nI_of h1
  refine ⟨j, rfl, ?_, nI_clamp hj⟩
  rcases Nat.lt_or_ge k j with q | q
  · exact absurd (nI_lt q hj) h2
  · exact q
theorem kix {n : Nat} {a : Int32} (hn : n ≤ 1024) (h : ¬ (a < 0 ∨ nI n ≤ a)) : ∃ j, a = nI j ∧ j < n ∧ a.toNatClampNeg = j := by
  have h1 : ¬ a < 0 := fun z => h (Or.inl z)
  have h2 : ¬ nI n ≤ a := fun z => h (Or.inr z)
  obtain ⟨j, hj, rfl⟩ := nI_of h1
  refine ⟨j, rfl, ?_, nI_clamp hj⟩
  rcases Nat.lt_or_ge j n with q | q
  · exact q
  · exact absurd (nI_le q hj) h2
theorem kok_up {ds : Nat → Option Dc} {i : Nat} {d2 : Dc} (h : dsOk ds) (h2 : d2.count ≤ 64 ∧ rvOk d2.rv) : dsOk (va_up ds i (some d2)) := by
  intro k d e
  by_cases q : k = i
  · subst q
    rw [va_up_self] at e
    cases e
    exact h2
  · rw [va_up_ne _ _ q] at e
    exact h k d e
theorem kok_dn {ds : Nat → Option Dc} {i : Nat} (h : dsOk ds) : dsOk (va_up ds i none) := by
  intro k d e
  by_cases q : k = i
  · subst q
    rw [va_up_self] at e
    cases e
  · rw [va_up_ne _ _ q] at e
    exact h k d e
def kpt (ds : Nat → Option Dc) : Prop := ∀ i d j, ds i = some d → d.first ≤ j → j < d.count → ∃ r, d.rv j = some r
theorem kpt_up {ds : Nat → Option Dc} {i : Nat} {d2 : Dc} (h : kpt ds) (h2 : ∀ j, d2.first ≤ j → j < d2.count → ∃ r, d2.rv j = some r) : kpt (va_up ds i (some d2)) := by
  intro k d j e
  by_cases q : k = i
  · subst q
    rw [va_up_self] at e
    cases e
    exact h2 j
  · rw [va_up_ne _ _ q] at e
    exact h k d j e
theorem kpt_dn {ds : Nat → Option Dc} {i : Nat} (h : kpt ds) : kpt (va_up ds i none) := by
  intro k d j e
  by_cases q : k = i
  · subst q
    rw [va_up_self] at e
    cases e
  · rw [va_up_ne _ _ q] at e
    exact h k d j e
theorem kone {D : va_G} {a b : ClassId} {c1 c2 c3 : ClassId} {t1 t2 t3 t : FieldType} {U : State} (h : va_K D vwCl [(c1, t1), (a, t)] U) (h2 : va_K D vwCl [(c2, t2), (c3, t3), (b, t)] U) : a = b := by
  have h3 : va_K D vwCl [(a, t), (b, t)] U := by
    refine ⟨h.1, fun k q hk => ?_⟩
    match k, hk with
    | 0, hk => cases hk; exact h.2 1 _ rfl
    | 1, hk => cases hk; exact h2.2 2 _ rfl
    | k + 2, hk => simp at hk
  exact h3.one 0 1 rfl rfl
theorem kadd {cB cR : ClassId} {ds : Nat → Option Dc} {i a ra : Nat} (hi : i < 8) (hn : ds i = none) : (pW cB cR (va_up ds i (some (a, ra, 0, 0, fun _ => none)))).Perm ([(a, .inr (5, [.ref ra, .int 0, .int 0])), (ra, .inl (cR, 64, .inr (.inr (.inr (.inr (fun _ => none))))))] ++ pW cB cR ds) := by
  have h := pW_add (cB := cB) (cR := cR) (d := (a, ra, 0, 0, fun _ => none)) hi hn
  have e : rvW cB (Dc.rv (a, ra, 0, 0, fun _ => none)) = [] := rvW_nil cB
  rw [e, List.nil_append] at h
  exact h
theorem dsA_keep {ds : Nat → Option Dc} {i : Nat} {d d2 : Dc} (h : ds i = some d) (e : d2.a = d.a) : dsA (va_up ds i (some d2)) = dsA ds := by
  funext k
  unfold dsA va_up
  split
  · next q => subst q; rw [h]; exact congrArg some e
  · rfl
theorem rvA_keep {rv : Nat → Option Rc} {j : Nat} {r r2 : Rc} (h : rv j = some r) (e : r2.a = r.a) : rvA (va_up rv j (some r2)) = rvA rv := by
  funext k
  unfold rvA va_up
  split
  · next q => subst q; rw [h]; exact congrArg some e
  · rfl
theorem rvOk_cut {rv : Nat → Option Rc} {f k : Nat} (h : rvOk rv) : rvOk (cutA f rv k) := by
  intro j r e
  unfold cutA at e
  split at e
  · cases e
  · exact h j r e
theorem kpt_cut {rv : Nat → Option Rc} {f n r9 : Nat} (ha : f ≤ r9) (h : ∀ j, f ≤ j → j < n → ∃ r, rv j = some r) : ∀ j, r9 ≤ j → j < n → ∃ r, cutA r9 rv 0 j = some r := by
  intro j h1 h2
  unfold cutA
  rw [if_neg (by omega)]
  exact h j (by omega) h2
theorem rvOk_up {rv : Nat → Option Rc} {j : Nat} {r : Rc} (h : rvOk rv) (h2 : tx r.S r.np r.fp ∧ r.np ≤ 1024) : rvOk (va_up rv j (some r)) := by
  intro k r2 e
  by_cases q : k = j
  · subst q
    rw [va_up_self] at e
    cases e
    exact h2
  · rw [va_up_ne _ _ q] at e
    exact h k r2 e
theorem kpt_upr {rv : Nat → Option Rc} {f n j : Nat} {r2 : Rc} (h : ∀ j, f ≤ j → j < n → ∃ r, rv j = some r) : ∀ t, f ≤ t → t < n → ∃ r, va_up rv j (some r2) t = some r := by
  intro t h1 h2
  by_cases q : t = j
  · subst q
    exact ⟨r2, va_up_self _ _ _⟩
  · rw [va_up_ne _ _ q]
    exact h t h1 h2
theorem kpt_add {rv : Nat → Option Rc} {f n : Nat} {r2 : Rc} (h : ∀ j, f ≤ j → j < n → ∃ r, rv j = some r) : ∀ t, f ≤ t → t < n + 1 → ∃ r, va_up rv n (some r2) t = some r := by
  intro t h1 h2
  by_cases q : t = n
  · subst q
    exact ⟨r2, va_up_self _ _ _⟩
  · rw [va_up_ne _ _ q]
    exact h t h1 (by omega)
theorem tx_set {S : List Int32} {n j : Nat} {f : Nat → Int32} {b : Int32} (h : tx S n f) (hj : j < n) : tx (S.set j (nbb (S.getD j 0 ^^^ b))) n (upd f j (nbb (f j ^^^ b))) := by
  obtain ⟨h1, h2, h3⟩ := h
  refine ⟨by rw [List.length_set]; exact h1, fun t ht => ?_, fun c hc => ?_⟩
  · by_cases q : t = j
    · subst q
      rw [pk_us, h2 t ht]
      simp [List.getD, List.getElem?_set, h1, ht]
    · rw [pk_un q, h2 t ht]
      simp only [List.getD, List.getElem?_set, if_neg (fun e => q (Eq.symm e) : ¬ j = t)]
  · rcases List.mem_or_eq_of_mem_set hc with hc | rfl
    · exact h3 c hc
    · exact nbb_B _
theorem kno {d : Dc} (h : dmOk (dcM d)) : d.rv d.count = none := by
  cases e : d.rv d.count with
  | none => rfl
  | some r =>
    have h9 : (dcM d).rv d.count = some (rcM r) := by
      show (d.rv d.count).map rcM = _
      rw [e]
      rfl
    have h8 : d.count < d.count := (h.2.2.2 _ _ h9).1
    omega
theorem kpd {cB cR : ClassId} {ds : Nat → Option Dc} {i : Nat} {d : Dc} (hi : i < 8) (h : ds i = some d) : plD cB cR ds (dcH cR d ++ (rvW cB d.rv ++ pW cB cR (va_up ds i none))) := by
  intro k e hk he
  obtain ⟨pl, h1, h2⟩ := plD_of (cB := cB) (cR := cR) k e hk he
  exact ⟨pl, (pW_take hi h).symm.trans h1, h2⟩
theorem kzc {cB cR : ClassId} {ds : Nat → Option Dc} {i : Nat} {d d2 : Dc} {W2 X2 ws2 : va_W} (hi : i < 8) (hc : (rvW cB d2.rv).Sublist (rvW cB d.rv)) (h : ∀ P, (pW cB cR (va_up ds i (some d2))).Perm (dcH cR d2 ++ P) → W2.Perm (ws2 ++ (X2 ++ P))) : ∃ z, (ws2 ++ (X2 ++ (rvW cB d.rv ++ pW cB cR (va_up ds i none)))).Perm (W2 ++ z) := by
  obtain ⟨z, hz⟩ := sub_z hc
  have h1 := h _ (pW_put hi)
  refine ⟨z, ?_⟩
  refine List.Perm.trans ?_ (h1.symm.append_right z)
  rw [List.append_assoc, List.append_assoc]
  refine List.Perm.append_left ws2 (List.Perm.append_left X2 ?_)
  refine (hz.append_right _).trans ?_
  rw [List.append_assoc, List.append_assoc]
  exact List.perm_append_comm.append_left _
theorem kzd {cB cR : ClassId} {ds : Nat → Option Dc} {i : Nat} {d : Dc} {W2 X X2 ws2 : va_W} (hi : i < 8) (hd : ds i = some d) (h : ∀ P, (X ++ P).Perm (ws2 ++ (X2 ++ P))) (hW : W2 = X ++ pW cB cR (va_up ds i none)) : ∃ z, (ws2 ++ (X2 ++ pW cB cR ds)).Perm (W2 ++ z) := by
  subst hW
  refine ⟨dcH cR d ++ rvW cB d.rv, ?_⟩
  refine (h _).symm.trans ?_
  rw [List.append_assoc]
  refine List.Perm.append_left X ?_
  refine (pW_take hi hd).trans ?_
  rw [← List.append_assoc]
  exact List.perm_append_comm
theorem kcm {cB cR : ClassId} {ds : Nat → Option Dc} {i a ra f n : Nat} {rv : Nat → Option Rc} {r : Rc} (hi : i < 8) (hn : n < 64) (h : rv n = none) : (pW cB cR (va_up ds i (some (a, ra, f, n + 1, va_up rv n (some r))))).Perm ((dcH cR (a, ra, f, n + 1, va_up rv n (some r)) ++ rcW cB r) ++ (rvW cB rv ++ pW cB cR (va_up ds i none))) :=
  (pW_put hi).trans (kdr (rvW_add hn h))
theorem kds {sd : Nat → Option Dm} {ds : Nat → Option Dc} {i : Nat} {d2 : Dc} {dm2 : Dm} (h : sd = dsM ds) (e : dcM d2 = dm2) : va_up sd i (some dm2) = dsM (va_up ds i (some d2)) := by
  rw [dsM_up, h, ← e]
  rfl
theorem dcM_cut (d : Dc) (r9 : Nat) : dcM (d.a, d.ra, r9, d.count, cutA r9 d.rv 0) = (r9, d.count, cutA r9 (dcM d).rv 0) := congrArg (fun z : Nat → Option Rv => ((r9, d.count, z) : Dm)) (rvM_cut d.rv r9 0)
theorem dcM_up (d : Dc) (n j : Nat) (r : Rc) : dcM (d.a, d.ra, d.first, n, va_up d.rv j (some r)) = (d.first, n, va_up (dcM d).rv j (some (rcM r))) := congrArg (fun z : Nat → Option Rv => ((d.first, n, z) : Dm)) (rvM_up d.rv j (some r))
theorem kdm {cB cR : ClassId} {ds : Nat → Option Dc} {i j : Nat} {d : Dc} {r r2 : Rc} (hi : i < 8) (hj : j < 64) (hr : d.rv j = some r) (e : r2.a = r.a) : (pW cB cR (va_up ds i (some (d.a, d.ra, d.first, d.count, va_up d.rv j (some r2))))).Perm ((dcH cR d ++ rcW cB r2) ++ (rvW cB (va_up d.rv j none) ++ pW cB cR (va_up ds i none))) := by
  have h := (pW_put (cB := cB) (cR := cR) (ds := ds) (d := (d.a, d.ra, d.first, d.count, va_up d.rv j (some r2))) hi).trans (kdr (rvW_put hj))
  have e1 : rvA (va_up d.rv j (some r2)) = rvA d.rv := rvA_keep hr e
  have e2 : dcH cR (d.a, d.ra, d.first, d.count, va_up d.rv j (some r2)) = dcH cR d := by
    show ([(d.a, .inr (5, [.ref d.ra, .int (nI d.first), .int (nI d.count)])), (d.ra, .inl (cR, 64, .inr (.inr (.inr (.inr (rvA (va_up d.rv j (some r2))))))))] : va_W) = _
    rw [e1]
  rw [e2] at h
  exact h
def sRev (σ : Sg) (a1 a2 a3 : Int32) : Sg × Int32 × Int32 :=
  if σ.down then (σ, 3, 0) else
  match rGet σ.ds a1 a2 with
  | none => (σ, 1, 0)
  | some (_, d, _, r) => if (a2 < nI d.first ∨ nI d.count ≤ a2) ∧ ¬ a3 = 0 ∧ ¬ a3 = 2 then (σ, 1, 0) else if a3 = 0 then (σ, 0, nI r.S.length) else if a3 = 1 then (σ, 0, r.au) else if a3 = 2 then (σ, 0, r.sm) else (σ, 2, 0)
theorem kna0 {d : Dc} {a2 : Int32} (hf : d.first ≤ d.count) (hc : d.count ≤ 64) (q : a2 < 0 ∨ nI d.count ≤ a2) : a2 < nI d.first ∨ nI d.count ≤ a2 := by
  rcases q with q | q
  · exact Or.inl (Int32.lt_of_lt_of_le q (nI_pos' (by omega)))
  · exact Or.inr q
theorem kna1 {d : Dc} {j : Nat} (hf : d.first ≤ d.count) (hc : d.count ≤ 64) (hj : j < d.count) (hr : d.rv j = none) (hkp : ∀ j, d.first ≤ j → j < d.count → ∃ r, d.rv j = some r) : nI j < nI d.first ∨ nI d.count ≤ nI j := by
  rcases Nat.lt_or_ge j d.first with q | q
  · exact Or.inl (nI_lt q (by omega))
  · obtain ⟨r, e⟩ := hkp j q hj
    rw [e] at hr
    cases hr
theorem kMet.out {l : Launch} {y : MethodName} {kk : List Cond} {ex : Int32 → String} {D : va_G} {sz h0 : Nat} {cB cD cR : ClassId} {x : KX} {ds : Nat → Option Dc} {av : List Value} {z : Sg × Int32 × Int32} (h : kMet l y kk ex D sz h0 cB cD cR x ds av z) : vx_Met l y kk kRm (va_Pc av (fun U => pc_E D (kW h0 cB cD cR x ds) (kT cB cD cR) sz U ∧ tw_ok U)) (va_Qi (fun r (_ : Unit) => kR z r) (fun _ t => kB D h0 cB cD cR z.1 (va_A (kW h0 cB cD cR x ds) sz) t) (va_A (kW h0 cB cD cR x ds) sz)) (vx_X (fun _ : Unit => True) (fun E _ t => kE ex z E ∧ kB D h0 cB cD cR z.1 (va_A (kW h0 cB cD cR x ds) sz) t) (va_A (kW h0 cB cD cR x ds) sz)) 2 264 (va_A (kW h0 cB cD cR x ds) sz) := h
theorem cd_feed {σ : Sg} {a b c d e : Int32} : (sFeed σ a b c d e).2.1 = 0 ∨ (sFeed σ a b c d e).2.1 = 1 := by
  unfold sFeed
  repeat' split
  all_goals first | exact Or.inl rfl | exact Or.inr rfl
theorem cd_end {σ : Sg} {a : Int32} : (sEnd σ a).2.1 = 0 ∨ (sEnd σ a).2.1 = 1 := by
  unfold sEnd
  repeat' split
  all_goals first | exact Or.inl rfl | exact Or.inr rfl
theorem cd_make {σ : Sg} : (sMake σ).2.1 = 0 ∨ (sMake σ).2.1 = 1 := by
  unfold sMake
  repeat' split
  all_goals first | exact Or.inl rfl | exact Or.inr rfl
theorem cd_commit {σ : Sg} {a b : Int32} : (sCommit σ a b).2.1 = 0 ∨ (sCommit σ a b).2.1 = 1 := by
  unfold sCommit
  repeat' split
  all_goals first | exact Or.inl rfl | exact Or.inr rfl
theorem cd_fetch {σ : Sg} {a b : Int32} : (sFetch σ a b).2.1 = 0 ∨ (sFetch σ a b).2.1 = 1 := by
  unfold sFetch
  repeat' split
  all_goals first | exact Or.inl rfl | exact Or.inr rfl
theorem cd_out {σ : Sg} {a : Int32} : (sOut σ a).2.1 = 0 ∨ (sOut σ a).2.1 = 1 := by
  unfold sOut
  repeat' split
  all_goals first | exact Or.inl rfl | exact Or.inr rfl
theorem cd_steps {σ : Sg} : (sSteps σ).2.1 = 0 ∨ (sSteps σ).2.1 = 1 := by
  unfold sSteps
  repeat' split
  all_goals first | exact Or.inl rfl | exact Or.inr rfl
theorem cd_trim {σ : Sg} {a b : Int32} : (sTrim σ a b).2.1 = 0 ∨ (sTrim σ a b).2.1 = 1 := by
  unfold sTrim
  repeat' split
  all_goals first | exact Or.inl rfl | exact Or.inr rfl
theorem cd_dropDocument {σ : Sg} {a : Int32} : (sDrop σ a).2.1 = 0 ∨ (sDrop σ a).2.1 = 1 := by
  unfold sDrop
  repeat' split
  all_goals first | exact Or.inl rfl | exact Or.inr rfl
theorem cd_about {σ : Sg} {a b : Int32} : (sAbout σ a b).2.1 = 0 ∨ (sAbout σ a b).2.1 = 1 ∨ (sAbout σ a b).2.1 = 2 ∨ (sAbout σ a b).2.1 = 3 := by
  unfold sAbout
  repeat' split
  all_goals first | exact Or.inl rfl | exact Or.inr (Or.inl rfl) | exact Or.inr (Or.inr (Or.inl rfl)) | exact Or.inr (Or.inr (Or.inr rfl))
theorem cd_revision {σ : Sg} {a b d : Int32} : (sRev σ a b d).2.1 = 0 ∨ (sRev σ a b d).2.1 = 1 ∨ (sRev σ a b d).2.1 = 2 ∨ (sRev σ a b d).2.1 = 3 := by
  unfold sRev
  repeat' split
  all_goals first | exact Or.inl rfl | exact Or.inr (Or.inl rfl) | exact Or.inr (Or.inr (Or.inl rfl)) | exact Or.inr (Or.inr (Or.inr rfl))
theorem cd_pieceByte {σ : Sg} {a b d : Int32} : (sByte σ a b d).2.1 = 0 ∨ (sByte σ a b d).2.1 = 1 := by
  unfold sByte
  repeat' split
  all_goals first | exact Or.inl rfl | exact Or.inr rfl
theorem cd_damage {σ : Sg} {a b d e : Int32} : (sDamage σ a b d e).2.1 = 0 ∨ (sDamage σ a b d e).2.1 = 1 := by
  unfold sDamage
  repeat' split
  all_goals first | exact Or.inl rfl | exact Or.inr rfl
theorem cd_verify {σ : Sg} {a : Int32} : (sVerify σ a).2.1 = 0 ∨ (sVerify σ a).2.1 = 1 := by
  unfold sVerify
  repeat' split
  all_goals first | exact Or.inl rfl | exact Or.inr rfl
theorem cd_common {σ : Sg} {a b d e : Int32} : (sCommon σ a b d e).2.1 = 0 ∨ (sCommon σ a b d e).2.1 = 1 := by
  unfold sCommon
  repeat' split
  all_goals first | exact Or.inl rfl | exact Or.inr rfl
theorem cd_freeBlocks {σ : Sg} : (sFree σ).2.1 = 0 ∨ (sFree σ).2.1 = 1 := by
  unfold sFree
  repeat' split
  all_goals first | exact Or.inl rfl | exact Or.inr rfl
theorem cd_cutAfter {σ : Sg} {a : Int32} : (sCut σ a).2.1 = 0 ∨ (sCut σ a).2.1 = 1 := by
  unfold sCut
  repeat' split
  all_goals first | exact Or.inl rfl | exact Or.inr rfl
end
section
set_option maxHeartbeats 4000000 in
set_option maxRecDepth 100000 in
theorem k_feed (l : Launch) (hl9 : l.stackTraces = false) (dC : Nat → ClassId) (dI : Nat → Nat → Nat) (sz : Nat) (h0 : Nat) (cB cD cR : ClassId) (x : KX) (ds : Nat → Option Dc) (σ : Sg) (a1 : Int32) (a2 : Int32) (a3 : Int32) (a4 : Int32) (a5 : Int32) (hs : sOk σ) (hk : kOk σ x ds) : kMet l y_K_feed k_K_feed ex1 (dC, dI) sz h0 cB cD cR x ds [.ref h0, .int a1, .int a2, .int a3, .int a4, .int a5] (sFeed σ a1 a2 a3 a4 a5) := by
  cases hdn : σ.down with
  | true =>
    have hW : kW h0 cB cD cR x ds = ([(h0, .inr (0, [.ref x.hd, .ref x.hb1, .ref x.hf, .ref x.hc, .ref x.hmk, .ref x.hwr, .ref x.hp, .int x.md, .int x.fs])), (x.hp, .inr (4, [.int 1, .int x.gi, .int x.wl])), (x.hd, .inl (cD, 8, .inr (.inr (.inr (.inr ((dsA ds))))))), (x.hmk, .inr (2, [.ref x.hba, .ref x.hta, x.vp, .int x.a0])), (x.hta, .inr (1, [.ref x.hty, .int (nI x.k)])), (x.hty, .inl (cB, 256, .inl (x.f))), (x.hba, .inr (1, [.ref x.hby, .int (nI x.kb)])), (x.hby, .inl (cB, 256, .inl (x.fb))), (x.hwr, .inr (3, [.ref x.hrw, .int (nI x.q)])), (x.hrw, .inl (cB, 512, .inl (x.g))), (x.hb1, .inr (1, [.ref x.hy, .int (nI x.ku)])), (x.hy, .inl (cB, 256, .inl (x.fu))), (x.hf, .inr (1, [.ref x.hfy, .int (nI x.kf)])), (x.hfy, .inl (cB, 256, .inl (x.ff))), (x.hc, .inr (1, [.ref x.hcy, .int (nI x.kc)])), (x.hcy, .inl (cB, 256, .inl (x.fc)))] : va_W) ++ pW cB cR ds := by unfold kW; rw [hk.dw, hdn]; rfl
    have hst : (sFeed σ a1 a2 a3 a4 a5) = (σ, 1, 0) := by unfold sFeed; rw [if_pos hdn]
    rw [hst]
    exact kDown (x_feed_D l hl9 dC dI sz h0 (.ref x.hd) (.ref x.hb1) (.ref x.hf) (.ref x.hc) (.ref x.hmk) (.ref x.hwr) x.md x.fs x.hp x.gi x.wl a1 a2 a3 a4 a5) (by decide) ((List.Perm.of_eq hW).trans (km0 (X1 := [(h0, .inr (0, [.ref x.hd, .ref x.hb1, .ref x.hf, .ref x.hc, .ref x.hmk, .ref x.hwr, .ref x.hp, .int x.md, .int x.fs])), (x.hp, .inr (4, [.int 1, .int x.gi, .int x.wl]))]) (X2 := [(x.hd, .inl (cD, 8, .inr (.inr (.inr (.inr ((dsA ds))))))), (x.hmk, .inr (2, [.ref x.hba, .ref x.hta, x.vp, .int x.a0])), (x.hta, .inr (1, [.ref x.hty, .int (nI x.k)])), (x.hty, .inl (cB, 256, .inl (x.f))), (x.hba, .inr (1, [.ref x.hby, .int (nI x.kb)])), (x.hby, .inl (cB, 256, .inl (x.fb))), (x.hwr, .inr (3, [.ref x.hrw, .int (nI x.q)])), (x.hrw, .inl (cB, 512, .inl (x.g))), (x.hb1, .inr (1, [.ref x.hy, .int (nI x.ku)])), (x.hy, .inl (cB, 256, .inl (x.fu))), (x.hf, .inr (1, [.ref x.hfy, .int (nI x.kf)])), (x.hfy, .inl (cB, 256, .inl (x.ff))), (x.hc, .inr (1, [.ref x.hcy, .int (nI x.kc)])), (x.hcy, .inl (cB, 256, .inl (x.fc)))]) (pick [0, 1, 2, 3, 4, 5, 6, 7, 8, 9, 10, 11, 12, 13, 14, 15] 16 rfl rfl rfl))) [] rfl hk (by decide) rfl
  | false =>
    obtain ⟨hgi, hgw⟩ := hk.gi hdn
    have hg : ∀ w, σ.go = some w → x.wl = nI w ∧ w < 2 ^ 31 := fun w h => ⟨hgw w h, hs.go w h⟩
    have hd0 : (0 : Int32) = bI σ.down := by rw [hdn]; rfl
    have hndn : ¬ σ.down = true := by rw [hdn]; decide
    have hW : kW h0 cB cD cR x ds = ([(h0, .inr (0, [.ref x.hd, .ref x.hb1, .ref x.hf, .ref x.hc, .ref x.hmk, .ref x.hwr, .ref x.hp, .int (nI σ.nd), .int σ.stp])), (x.hp, .inr (4, [.int 0, .int (bI σ.go.isSome), .int x.wl])), (x.hd, .inl (cD, 8, .inr (.inr (.inr (.inr ((dsA ds))))))), (x.hmk, .inr (2, [.ref x.hba, .ref x.hta, x.vp, .int x.a0])), (x.hta, .inr (1, [.ref x.hty, .int (nI x.k)])), (x.hty, .inl (cB, 256, .inl (x.f))), (x.hba, .inr (1, [.ref x.hby, .int (nI x.kb)])), (x.hby, .inl (cB, 256, .inl (x.fb))), (x.hwr, .inr (3, [.ref x.hrw, .int (nI x.q)])), (x.hrw, .inl (cB, 512, .inl (x.g))), (x.hb1, .inr (1, [.ref x.hy, .int (nI x.ku)])), (x.hy, .inl (cB, 256, .inl (x.fu))), (x.hf, .inr (1, [.ref x.hfy, .int (nI x.kf)])), (x.hfy, .inl (cB, 256, .inl (x.ff))), (x.hc, .inr (1, [.ref x.hcy, .int (nI x.kc)])), (x.hcy, .inl (cB, 256, .inl (x.fc)))] : va_W) ++ pW cB cR ds := by unfold kW; rw [hk.dw, hdn, hgi, hk.md, hk.fs]; rfl
    have hlen : σ.buf.length = x.ku := hk.bu.1.1
    by_cases q : 256 < σ.buf.length + 20
    · have hst : (sFeed σ a1 a2 a3 a4 a5) = (σ, 0, 0) := by unfold sFeed; rw [if_neg hndn, if_pos q]
      rw [hst]
      exact kPure (g_feed_F l dC dI h0 (.ref x.hd) (.ref x.hf) (.ref x.hc) (.ref x.hmk) (.ref x.hwr) (nI σ.nd) σ.stp x.hp (bI σ.go.isSome) x.wl x.hb1 x.hy cB x.ku x.fu a1 a2 a3 a4 a5 hk.bu.2 (by omega)) (by decide) ((List.Perm.of_eq hW).trans (km0 (X1 := [(h0, .inr (0, [.ref x.hd, .ref x.hb1, .ref x.hf, .ref x.hc, .ref x.hmk, .ref x.hwr, .ref x.hp, .int (nI σ.nd), .int σ.stp])), (x.hp, .inr (4, [.int 0, .int (bI σ.go.isSome), .int x.wl])), (x.hb1, .inr (1, [.ref x.hy, .int (nI x.ku)])), (x.hy, .inl (cB, 256, .inl (x.fu)))]) (X2 := [(x.hd, .inl (cD, 8, .inr (.inr (.inr (.inr ((dsA ds))))))), (x.hmk, .inr (2, [.ref x.hba, .ref x.hta, x.vp, .int x.a0])), (x.hta, .inr (1, [.ref x.hty, .int (nI x.k)])), (x.hty, .inl (cB, 256, .inl (x.f))), (x.hba, .inr (1, [.ref x.hby, .int (nI x.kb)])), (x.hby, .inl (cB, 256, .inl (x.fb))), (x.hwr, .inr (3, [.ref x.hrw, .int (nI x.q)])), (x.hrw, .inl (cB, 512, .inl (x.g))), (x.hf, .inr (1, [.ref x.hfy, .int (nI x.kf)])), (x.hfy, .inl (cB, 256, .inl (x.ff))), (x.hc, .inr (1, [.ref x.hcy, .int (nI x.kc)])), (x.hcy, .inl (cB, 256, .inl (x.fc)))]) (pick [0, 1, 10, 11, 2, 3, 4, 5, 6, 7, 8, 9, 12, 13, 14, 15] 16 rfl rfl rfl))) [0] rfl hk
    · have hst : (sFeed σ a1 a2 a3 a4 a5) = (sgB σ (σ.buf ++ (fb4 a1 ++ (fb4 a2 ++ (fb4 a3 ++ (fb4 a4 ++ fb4 a5))))), 0, 1) := by unfold sFeed; rw [if_neg hndn, if_neg q]
      rw [hst]
      refine kRet (g_feed_T l dC dI sz h0 (.ref x.hd) (.ref x.hf) (.ref x.hc) (.ref x.hmk) (.ref x.hwr) (nI σ.nd) σ.stp x.hp (bI σ.go.isSome) x.wl x.hb1 x.hy cB x.ku x.fu σ.buf a1 a2 a3 a4 a5 hk.bu.1 (by omega)) (by decide) ((List.Perm.of_eq hW).trans (km0 (X1 := [(h0, .inr (0, [.ref x.hd, .ref x.hb1, .ref x.hf, .ref x.hc, .ref x.hmk, .ref x.hwr, .ref x.hp, .int (nI σ.nd), .int σ.stp])), (x.hp, .inr (4, [.int 0, .int (bI σ.go.isSome), .int x.wl])), (x.hb1, .inr (1, [.ref x.hy, .int (nI x.ku)])), (x.hy, .inl (cB, 256, .inl (x.fu)))]) (X2 := [(x.hd, .inl (cD, 8, .inr (.inr (.inr (.inr ((dsA ds))))))), (x.hmk, .inr (2, [.ref x.hba, .ref x.hta, x.vp, .int x.a0])), (x.hta, .inr (1, [.ref x.hty, .int (nI x.k)])), (x.hty, .inl (cB, 256, .inl (x.f))), (x.hba, .inr (1, [.ref x.hby, .int (nI x.kb)])), (x.hby, .inl (cB, 256, .inl (x.fb))), (x.hwr, .inr (3, [.ref x.hrw, .int (nI x.q)])), (x.hrw, .inl (cB, 512, .inl (x.g))), (x.hf, .inr (1, [.ref x.hfy, .int (nI x.kf)])), (x.hfy, .inl (cB, 256, .inl (x.ff))), (x.hc, .inr (1, [.ref x.hcy, .int (nI x.kc)])), (x.hcy, .inl (cB, 256, .inl (x.fc)))]) (pick [0, 1, 10, 11, 2, 3, 4, 5, 6, 7, 8, 9, 12, 13, 14, 15] 16 rfl rfl rfl))) [0] rfl (fun r h => ⟨rfl, h⟩) (fun t hb fr => ?_)
      obtain ⟨f2, hu, hat⟩ := hb
      exact ⟨(x.hd, x.hb1, x.hy, x.hf, x.hfy, x.hc, x.hcy, x.hmk, x.hta, x.hty, x.hba, x.hby, x.hwr, x.hrw, x.hp, 0, (bI σ.go.isSome), x.wl, (nI σ.nd), σ.stp, x.a0, x.vp, x.k, x.kb, x.q, (x.ku + 20), x.kf, x.kc, x.f, x.fb, x.g, f2, x.ff, x.fc), ds, (kOk.mk hd0 (fun _ => ⟨rfl, hgw⟩) rfl rfl hk.ds hk.ok hk.kp ⟨hu, (show x.ku + 20 ≤ 256 by omega)⟩ hk.fe hk.mt hk.mb hk.cm), fr _ _ _ hat (kz ((List.Perm.of_eq (rfl : kW h0 cB cD cR (x.hd, x.hb1, x.hy, x.hf, x.hfy, x.hc, x.hcy, x.hmk, x.hta, x.hty, x.hba, x.hby, x.hwr, x.hrw, x.hp, 0, (bI σ.go.isSome), x.wl, (nI σ.nd), σ.stp, x.a0, x.vp, x.k, x.kb, x.q, (x.ku + 20), x.kf, x.kc, x.f, x.fb, x.g, f2, x.ff, x.fc) ds = ([(h0, .inr (0, [.ref x.hd, .ref x.hb1, .ref x.hf, .ref x.hc, .ref x.hmk, .ref x.hwr, .ref x.hp, .int (nI σ.nd), .int σ.stp])), (x.hp, .inr (4, [.int 0, .int (bI σ.go.isSome), .int x.wl])), (x.hd, .inl (cD, 8, .inr (.inr (.inr (.inr ((dsA ds))))))), (x.hmk, .inr (2, [.ref x.hba, .ref x.hta, x.vp, .int x.a0])), (x.hta, .inr (1, [.ref x.hty, .int (nI x.k)])), (x.hty, .inl (cB, 256, .inl (x.f))), (x.hba, .inr (1, [.ref x.hby, .int (nI x.kb)])), (x.hby, .inl (cB, 256, .inl (x.fb))), (x.hwr, .inr (3, [.ref x.hrw, .int (nI x.q)])), (x.hrw, .inl (cB, 512, .inl (x.g))), (x.hb1, .inr (1, [.ref x.hy, .int (nI (x.ku + 20))])), (x.hy, .inl (cB, 256, .inl (f2))), (x.hf, .inr (1, [.ref x.hfy, .int (nI x.kf)])), (x.hfy, .inl (cB, 256, .inl (x.ff))), (x.hc, .inr (1, [.ref x.hcy, .int (nI x.kc)])), (x.hcy, .inl (cB, 256, .inl (x.fc)))] : va_W) ++ pW cB cR ds)).trans (km0 (X1 := [(h0, .inr (0, [.ref x.hd, .ref x.hb1, .ref x.hf, .ref x.hc, .ref x.hmk, .ref x.hwr, .ref x.hp, .int (nI σ.nd), .int σ.stp])), (x.hp, .inr (4, [.int 0, .int (bI σ.go.isSome), .int x.wl])), (x.hb1, .inr (1, [.ref x.hy, .int (nI (x.ku + 20))])), (x.hy, .inl (cB, 256, .inl (f2)))]) (X2 := [(x.hd, .inl (cD, 8, .inr (.inr (.inr (.inr ((dsA ds))))))), (x.hmk, .inr (2, [.ref x.hba, .ref x.hta, x.vp, .int x.a0])), (x.hta, .inr (1, [.ref x.hty, .int (nI x.k)])), (x.hty, .inl (cB, 256, .inl (x.f))), (x.hba, .inr (1, [.ref x.hby, .int (nI x.kb)])), (x.hby, .inl (cB, 256, .inl (x.fb))), (x.hwr, .inr (3, [.ref x.hrw, .int (nI x.q)])), (x.hrw, .inl (cB, 512, .inl (x.g))), (x.hf, .inr (1, [.ref x.hfy, .int (nI x.kf)])), (x.hfy, .inl (cB, 256, .inl (x.ff))), (x.hc, .inr (1, [.ref x.hcy, .int (nI x.kc)])), (x.hcy, .inl (cB, 256, .inl (x.fc)))]) (pick [0, 1, 10, 11, 2, 3, 4, 5, 6, 7, 8, 9, 12, 13, 14, 15] 16 rfl rfl rfl))))⟩
set_option maxHeartbeats 4000000 in
set_option maxRecDepth 100000 in
theorem k_end (l : Launch) (hl9 : l.stackTraces = false) (dC : Nat → ClassId) (dI : Nat → Nat → Nat) (sz : Nat) (h0 : Nat) (cB cD cR : ClassId) (x : KX) (ds : Nat → Option Dc) (σ : Sg) (a1 : Int32) (hs : sOk σ) (hk : kOk σ x ds) : kMet l y_K_end k_K_end ex1 (dC, dI) sz h0 cB cD cR x ds [.ref h0, .int a1] (sEnd σ a1) := by
  cases hdn : σ.down with
  | true =>
    have hW : kW h0 cB cD cR x ds = ([(h0, .inr (0, [.ref x.hd, .ref x.hb1, .ref x.hf, .ref x.hc, .ref x.hmk, .ref x.hwr, .ref x.hp, .int x.md, .int x.fs])), (x.hp, .inr (4, [.int 1, .int x.gi, .int x.wl])), (x.hd, .inl (cD, 8, .inr (.inr (.inr (.inr ((dsA ds))))))), (x.hmk, .inr (2, [.ref x.hba, .ref x.hta, x.vp, .int x.a0])), (x.hta, .inr (1, [.ref x.hty, .int (nI x.k)])), (x.hty, .inl (cB, 256, .inl (x.f))), (x.hba, .inr (1, [.ref x.hby, .int (nI x.kb)])), (x.hby, .inl (cB, 256, .inl (x.fb))), (x.hwr, .inr (3, [.ref x.hrw, .int (nI x.q)])), (x.hrw, .inl (cB, 512, .inl (x.g))), (x.hb1, .inr (1, [.ref x.hy, .int (nI x.ku)])), (x.hy, .inl (cB, 256, .inl (x.fu))), (x.hf, .inr (1, [.ref x.hfy, .int (nI x.kf)])), (x.hfy, .inl (cB, 256, .inl (x.ff))), (x.hc, .inr (1, [.ref x.hcy, .int (nI x.kc)])), (x.hcy, .inl (cB, 256, .inl (x.fc)))] : va_W) ++ pW cB cR ds := by unfold kW; rw [hk.dw, hdn]; rfl
    have hst : (sEnd σ a1) = (σ, 1, 0) := by unfold sEnd; rw [if_pos hdn]
    rw [hst]
    exact kDown (x_end_D l hl9 dC dI sz h0 (.ref x.hd) (.ref x.hb1) (.ref x.hf) (.ref x.hc) (.ref x.hmk) (.ref x.hwr) x.md x.fs x.hp x.gi x.wl a1) (by decide) ((List.Perm.of_eq hW).trans (km0 (X1 := [(h0, .inr (0, [.ref x.hd, .ref x.hb1, .ref x.hf, .ref x.hc, .ref x.hmk, .ref x.hwr, .ref x.hp, .int x.md, .int x.fs])), (x.hp, .inr (4, [.int 1, .int x.gi, .int x.wl]))]) (X2 := [(x.hd, .inl (cD, 8, .inr (.inr (.inr (.inr ((dsA ds))))))), (x.hmk, .inr (2, [.ref x.hba, .ref x.hta, x.vp, .int x.a0])), (x.hta, .inr (1, [.ref x.hty, .int (nI x.k)])), (x.hty, .inl (cB, 256, .inl (x.f))), (x.hba, .inr (1, [.ref x.hby, .int (nI x.kb)])), (x.hby, .inl (cB, 256, .inl (x.fb))), (x.hwr, .inr (3, [.ref x.hrw, .int (nI x.q)])), (x.hrw, .inl (cB, 512, .inl (x.g))), (x.hb1, .inr (1, [.ref x.hy, .int (nI x.ku)])), (x.hy, .inl (cB, 256, .inl (x.fu))), (x.hf, .inr (1, [.ref x.hfy, .int (nI x.kf)])), (x.hfy, .inl (cB, 256, .inl (x.ff))), (x.hc, .inr (1, [.ref x.hcy, .int (nI x.kc)])), (x.hcy, .inl (cB, 256, .inl (x.fc)))]) (pick [0, 1, 2, 3, 4, 5, 6, 7, 8, 9, 10, 11, 12, 13, 14, 15] 16 rfl rfl rfl))) [] rfl hk (by decide) rfl
  | false =>
    obtain ⟨hgi, hgw⟩ := hk.gi hdn
    have hg : ∀ w, σ.go = some w → x.wl = nI w ∧ w < 2 ^ 31 := fun w h => ⟨hgw w h, hs.go w h⟩
    have hd0 : (0 : Int32) = bI σ.down := by rw [hdn]; rfl
    have hndn : ¬ σ.down = true := by rw [hdn]; decide
    have hW : kW h0 cB cD cR x ds = ([(h0, .inr (0, [.ref x.hd, .ref x.hb1, .ref x.hf, .ref x.hc, .ref x.hmk, .ref x.hwr, .ref x.hp, .int (nI σ.nd), .int σ.stp])), (x.hp, .inr (4, [.int 0, .int (bI σ.go.isSome), .int x.wl])), (x.hd, .inl (cD, 8, .inr (.inr (.inr (.inr ((dsA ds))))))), (x.hmk, .inr (2, [.ref x.hba, .ref x.hta, x.vp, .int x.a0])), (x.hta, .inr (1, [.ref x.hty, .int (nI x.k)])), (x.hty, .inl (cB, 256, .inl (x.f))), (x.hba, .inr (1, [.ref x.hby, .int (nI x.kb)])), (x.hby, .inl (cB, 256, .inl (x.fb))), (x.hwr, .inr (3, [.ref x.hrw, .int (nI x.q)])), (x.hrw, .inl (cB, 512, .inl (x.g))), (x.hb1, .inr (1, [.ref x.hy, .int (nI x.ku)])), (x.hy, .inl (cB, 256, .inl (x.fu))), (x.hf, .inr (1, [.ref x.hfy, .int (nI x.kf)])), (x.hfy, .inl (cB, 256, .inl (x.ff))), (x.hc, .inr (1, [.ref x.hcy, .int (nI x.kc)])), (x.hcy, .inl (cB, 256, .inl (x.fc)))] : va_W) ++ pW cB cR ds := by unfold kW; rw [hk.dw, hdn, hgi, hk.md, hk.fs]; rfl
    have hlen : σ.buf.length = x.ku := hk.bu.1.1
    by_cases q : a1 < 0 ∨ nI σ.buf.length < a1
    · have hst : (sEnd σ a1) = (σ, 0, 0) := by unfold sEnd; rw [if_neg hndn, if_pos q]
      rw [hst]
      rw [hlen] at q
      exact kPure (g_end_F l dC dI h0 (.ref x.hd) (.ref x.hf) (.ref x.hc) (.ref x.hmk) (.ref x.hwr) (nI σ.nd) σ.stp x.hp (bI σ.go.isSome) x.wl x.hb1 x.hy cB x.ku x.fu a1 q) (by decide) ((List.Perm.of_eq hW).trans (km0 (X1 := [(h0, .inr (0, [.ref x.hd, .ref x.hb1, .ref x.hf, .ref x.hc, .ref x.hmk, .ref x.hwr, .ref x.hp, .int (nI σ.nd), .int σ.stp])), (x.hp, .inr (4, [.int 0, .int (bI σ.go.isSome), .int x.wl])), (x.hb1, .inr (1, [.ref x.hy, .int (nI x.ku)])), (x.hy, .inl (cB, 256, .inl (x.fu)))]) (X2 := [(x.hd, .inl (cD, 8, .inr (.inr (.inr (.inr ((dsA ds))))))), (x.hmk, .inr (2, [.ref x.hba, .ref x.hta, x.vp, .int x.a0])), (x.hta, .inr (1, [.ref x.hty, .int (nI x.k)])), (x.hty, .inl (cB, 256, .inl (x.f))), (x.hba, .inr (1, [.ref x.hby, .int (nI x.kb)])), (x.hby, .inl (cB, 256, .inl (x.fb))), (x.hwr, .inr (3, [.ref x.hrw, .int (nI x.q)])), (x.hrw, .inl (cB, 512, .inl (x.g))), (x.hf, .inr (1, [.ref x.hfy, .int (nI x.kf)])), (x.hfy, .inl (cB, 256, .inl (x.ff))), (x.hc, .inr (1, [.ref x.hcy, .int (nI x.kc)])), (x.hcy, .inl (cB, 256, .inl (x.fc)))]) (pick [0, 1, 10, 11, 2, 3, 4, 5, 6, 7, 8, 9, 12, 13, 14, 15] 16 rfl rfl rfl))) [0] rfl hk
    · have hst : (sEnd σ a1) = (sgB σ (σ.buf.take a1.toNatClampNeg), 0, 1) := by unfold sEnd; rw [if_neg hndn, if_neg q]
      rw [hst]
      rw [hlen] at q
      obtain ⟨n9, rfl, hn9, hc9⟩ := kle hk.bu.2 q
      rw [hc9]
      refine kRet (g_end_T l dC dI sz h0 (.ref x.hd) (.ref x.hf) (.ref x.hc) (.ref x.hmk) (.ref x.hwr) (nI σ.nd) σ.stp x.hp (bI σ.go.isSome) x.wl x.hb1 x.hy cB x.ku x.fu σ.buf n9 hk.bu.1 hk.bu.2 hn9) (by decide) ((List.Perm.of_eq hW).trans (km0 (X1 := [(h0, .inr (0, [.ref x.hd, .ref x.hb1, .ref x.hf, .ref x.hc, .ref x.hmk, .ref x.hwr, .ref x.hp, .int (nI σ.nd), .int σ.stp])), (x.hp, .inr (4, [.int 0, .int (bI σ.go.isSome), .int x.wl])), (x.hb1, .inr (1, [.ref x.hy, .int (nI x.ku)])), (x.hy, .inl (cB, 256, .inl (x.fu)))]) (X2 := [(x.hd, .inl (cD, 8, .inr (.inr (.inr (.inr ((dsA ds))))))), (x.hmk, .inr (2, [.ref x.hba, .ref x.hta, x.vp, .int x.a0])), (x.hta, .inr (1, [.ref x.hty, .int (nI x.k)])), (x.hty, .inl (cB, 256, .inl (x.f))), (x.hba, .inr (1, [.ref x.hby, .int (nI x.kb)])), (x.hby, .inl (cB, 256, .inl (x.fb))), (x.hwr, .inr (3, [.ref x.hrw, .int (nI x.q)])), (x.hrw, .inl (cB, 512, .inl (x.g))), (x.hf, .inr (1, [.ref x.hfy, .int (nI x.kf)])), (x.hfy, .inl (cB, 256, .inl (x.ff))), (x.hc, .inr (1, [.ref x.hcy, .int (nI x.kc)])), (x.hcy, .inl (cB, 256, .inl (x.fc)))]) (pick [0, 1, 10, 11, 2, 3, 4, 5, 6, 7, 8, 9, 12, 13, 14, 15] 16 rfl rfl rfl))) [0] rfl (fun r h => ⟨rfl, h⟩) (fun t hb fr => ?_)
      obtain ⟨hu, hat⟩ := hb
      exact ⟨(x.hd, x.hb1, x.hy, x.hf, x.hfy, x.hc, x.hcy, x.hmk, x.hta, x.hty, x.hba, x.hby, x.hwr, x.hrw, x.hp, 0, (bI σ.go.isSome), x.wl, (nI σ.nd), σ.stp, x.a0, x.vp, x.k, x.kb, x.q, n9, x.kf, x.kc, x.f, x.fb, x.g, x.fu, x.ff, x.fc), ds, (kOk.mk hd0 (fun _ => ⟨rfl, hgw⟩) rfl rfl hk.ds hk.ok hk.kp ⟨hu, Nat.le_trans hn9 hk.bu.2⟩ hk.fe hk.mt hk.mb hk.cm), fr _ _ _ hat (kz ((List.Perm.of_eq (rfl : kW h0 cB cD cR (x.hd, x.hb1, x.hy, x.hf, x.hfy, x.hc, x.hcy, x.hmk, x.hta, x.hty, x.hba, x.hby, x.hwr, x.hrw, x.hp, 0, (bI σ.go.isSome), x.wl, (nI σ.nd), σ.stp, x.a0, x.vp, x.k, x.kb, x.q, n9, x.kf, x.kc, x.f, x.fb, x.g, x.fu, x.ff, x.fc) ds = ([(h0, .inr (0, [.ref x.hd, .ref x.hb1, .ref x.hf, .ref x.hc, .ref x.hmk, .ref x.hwr, .ref x.hp, .int (nI σ.nd), .int σ.stp])), (x.hp, .inr (4, [.int 0, .int (bI σ.go.isSome), .int x.wl])), (x.hd, .inl (cD, 8, .inr (.inr (.inr (.inr ((dsA ds))))))), (x.hmk, .inr (2, [.ref x.hba, .ref x.hta, x.vp, .int x.a0])), (x.hta, .inr (1, [.ref x.hty, .int (nI x.k)])), (x.hty, .inl (cB, 256, .inl (x.f))), (x.hba, .inr (1, [.ref x.hby, .int (nI x.kb)])), (x.hby, .inl (cB, 256, .inl (x.fb))), (x.hwr, .inr (3, [.ref x.hrw, .int (nI x.q)])), (x.hrw, .inl (cB, 512, .inl (x.g))), (x.hb1, .inr (1, [.ref x.hy, .int (nI n9)])), (x.hy, .inl (cB, 256, .inl (x.fu))), (x.hf, .inr (1, [.ref x.hfy, .int (nI x.kf)])), (x.hfy, .inl (cB, 256, .inl (x.ff))), (x.hc, .inr (1, [.ref x.hcy, .int (nI x.kc)])), (x.hcy, .inl (cB, 256, .inl (x.fc)))] : va_W) ++ pW cB cR ds)).trans (km0 (X1 := [(h0, .inr (0, [.ref x.hd, .ref x.hb1, .ref x.hf, .ref x.hc, .ref x.hmk, .ref x.hwr, .ref x.hp, .int (nI σ.nd), .int σ.stp])), (x.hp, .inr (4, [.int 0, .int (bI σ.go.isSome), .int x.wl])), (x.hb1, .inr (1, [.ref x.hy, .int (nI n9)])), (x.hy, .inl (cB, 256, .inl (x.fu)))]) (X2 := [(x.hd, .inl (cD, 8, .inr (.inr (.inr (.inr ((dsA ds))))))), (x.hmk, .inr (2, [.ref x.hba, .ref x.hta, x.vp, .int x.a0])), (x.hta, .inr (1, [.ref x.hty, .int (nI x.k)])), (x.hty, .inl (cB, 256, .inl (x.f))), (x.hba, .inr (1, [.ref x.hby, .int (nI x.kb)])), (x.hby, .inl (cB, 256, .inl (x.fb))), (x.hwr, .inr (3, [.ref x.hrw, .int (nI x.q)])), (x.hrw, .inl (cB, 512, .inl (x.g))), (x.hf, .inr (1, [.ref x.hfy, .int (nI x.kf)])), (x.hfy, .inl (cB, 256, .inl (x.ff))), (x.hc, .inr (1, [.ref x.hcy, .int (nI x.kc)])), (x.hcy, .inl (cB, 256, .inl (x.fc)))]) (pick [0, 1, 10, 11, 2, 3, 4, 5, 6, 7, 8, 9, 12, 13, 14, 15] 16 rfl rfl rfl))))⟩
set_option maxHeartbeats 4000000 in
set_option maxRecDepth 100000 in
theorem k_out (l : Launch) (hl9 : l.stackTraces = false) (dC : Nat → ClassId) (dI : Nat → Nat → Nat) (sz : Nat) (h0 : Nat) (cB cD cR : ClassId) (x : KX) (ds : Nat → Option Dc) (σ : Sg) (a1 : Int32) (hs : sOk σ) (hk : kOk σ x ds) : kMet l y_K_out k_K_out ex1 (dC, dI) sz h0 cB cD cR x ds [.ref h0, .int a1] (sOut σ a1) := by
  cases hdn : σ.down with
  | true =>
    have hW : kW h0 cB cD cR x ds = ([(h0, .inr (0, [.ref x.hd, .ref x.hb1, .ref x.hf, .ref x.hc, .ref x.hmk, .ref x.hwr, .ref x.hp, .int x.md, .int x.fs])), (x.hp, .inr (4, [.int 1, .int x.gi, .int x.wl])), (x.hd, .inl (cD, 8, .inr (.inr (.inr (.inr ((dsA ds))))))), (x.hmk, .inr (2, [.ref x.hba, .ref x.hta, x.vp, .int x.a0])), (x.hta, .inr (1, [.ref x.hty, .int (nI x.k)])), (x.hty, .inl (cB, 256, .inl (x.f))), (x.hba, .inr (1, [.ref x.hby, .int (nI x.kb)])), (x.hby, .inl (cB, 256, .inl (x.fb))), (x.hwr, .inr (3, [.ref x.hrw, .int (nI x.q)])), (x.hrw, .inl (cB, 512, .inl (x.g))), (x.hb1, .inr (1, [.ref x.hy, .int (nI x.ku)])), (x.hy, .inl (cB, 256, .inl (x.fu))), (x.hf, .inr (1, [.ref x.hfy, .int (nI x.kf)])), (x.hfy, .inl (cB, 256, .inl (x.ff))), (x.hc, .inr (1, [.ref x.hcy, .int (nI x.kc)])), (x.hcy, .inl (cB, 256, .inl (x.fc)))] : va_W) ++ pW cB cR ds := by unfold kW; rw [hk.dw, hdn]; rfl
    have hst : (sOut σ a1) = (σ, 1, 0) := by unfold sOut; rw [if_pos hdn]
    rw [hst]
    exact kDown (x_out_D l hl9 dC dI sz h0 (.ref x.hd) (.ref x.hb1) (.ref x.hf) (.ref x.hc) (.ref x.hmk) (.ref x.hwr) x.md x.fs x.hp x.gi x.wl a1) (by decide) ((List.Perm.of_eq hW).trans (km0 (X1 := [(h0, .inr (0, [.ref x.hd, .ref x.hb1, .ref x.hf, .ref x.hc, .ref x.hmk, .ref x.hwr, .ref x.hp, .int x.md, .int x.fs])), (x.hp, .inr (4, [.int 1, .int x.gi, .int x.wl]))]) (X2 := [(x.hd, .inl (cD, 8, .inr (.inr (.inr (.inr ((dsA ds))))))), (x.hmk, .inr (2, [.ref x.hba, .ref x.hta, x.vp, .int x.a0])), (x.hta, .inr (1, [.ref x.hty, .int (nI x.k)])), (x.hty, .inl (cB, 256, .inl (x.f))), (x.hba, .inr (1, [.ref x.hby, .int (nI x.kb)])), (x.hby, .inl (cB, 256, .inl (x.fb))), (x.hwr, .inr (3, [.ref x.hrw, .int (nI x.q)])), (x.hrw, .inl (cB, 512, .inl (x.g))), (x.hb1, .inr (1, [.ref x.hy, .int (nI x.ku)])), (x.hy, .inl (cB, 256, .inl (x.fu))), (x.hf, .inr (1, [.ref x.hfy, .int (nI x.kf)])), (x.hfy, .inl (cB, 256, .inl (x.ff))), (x.hc, .inr (1, [.ref x.hcy, .int (nI x.kc)])), (x.hcy, .inl (cB, 256, .inl (x.fc)))]) (pick [0, 1, 2, 3, 4, 5, 6, 7, 8, 9, 10, 11, 12, 13, 14, 15] 16 rfl rfl rfl))) [] rfl hk (by decide) rfl
  | false =>
    obtain ⟨hgi, hgw⟩ := hk.gi hdn
    have hg : ∀ w, σ.go = some w → x.wl = nI w ∧ w < 2 ^ 31 := fun w h => ⟨hgw w h, hs.go w h⟩
    have hd0 : (0 : Int32) = bI σ.down := by rw [hdn]; rfl
    have hndn : ¬ σ.down = true := by rw [hdn]; decide
    have hW : kW h0 cB cD cR x ds = ([(h0, .inr (0, [.ref x.hd, .ref x.hb1, .ref x.hf, .ref x.hc, .ref x.hmk, .ref x.hwr, .ref x.hp, .int (nI σ.nd), .int σ.stp])), (x.hp, .inr (4, [.int 0, .int (bI σ.go.isSome), .int x.wl])), (x.hd, .inl (cD, 8, .inr (.inr (.inr (.inr ((dsA ds))))))), (x.hmk, .inr (2, [.ref x.hba, .ref x.hta, x.vp, .int x.a0])), (x.hta, .inr (1, [.ref x.hty, .int (nI x.k)])), (x.hty, .inl (cB, 256, .inl (x.f))), (x.hba, .inr (1, [.ref x.hby, .int (nI x.kb)])), (x.hby, .inl (cB, 256, .inl (x.fb))), (x.hwr, .inr (3, [.ref x.hrw, .int (nI x.q)])), (x.hrw, .inl (cB, 512, .inl (x.g))), (x.hb1, .inr (1, [.ref x.hy, .int (nI x.ku)])), (x.hy, .inl (cB, 256, .inl (x.fu))), (x.hf, .inr (1, [.ref x.hfy, .int (nI x.kf)])), (x.hfy, .inl (cB, 256, .inl (x.ff))), (x.hc, .inr (1, [.ref x.hcy, .int (nI x.kc)])), (x.hcy, .inl (cB, 256, .inl (x.fc)))] : va_W) ++ pW cB cR ds := by unfold kW; rw [hk.dw, hdn, hgi, hk.md, hk.fs]; rfl
    have hst : (sOut σ a1) = (σ, 0, bAt σ.fet a1) := by unfold sOut; rw [if_neg hndn]
    rw [hst]
    exact kPure (g_out l dC dI h0 (.ref x.hd) (.ref x.hb1) (.ref x.hc) (.ref x.hmk) (.ref x.hwr) (nI σ.nd) σ.stp x.hp (bI σ.go.isSome) x.wl x.hf x.hfy cB x.kf x.ff σ.fet a1 hk.fe.1 hk.fe.2) (by decide) ((List.Perm.of_eq hW).trans (km0 (X1 := [(h0, .inr (0, [.ref x.hd, .ref x.hb1, .ref x.hf, .ref x.hc, .ref x.hmk, .ref x.hwr, .ref x.hp, .int (nI σ.nd), .int σ.stp])), (x.hp, .inr (4, [.int 0, .int (bI σ.go.isSome), .int x.wl])), (x.hf, .inr (1, [.ref x.hfy, .int (nI x.kf)])), (x.hfy, .inl (cB, 256, .inl (x.ff)))]) (X2 := [(x.hd, .inl (cD, 8, .inr (.inr (.inr (.inr ((dsA ds))))))), (x.hmk, .inr (2, [.ref x.hba, .ref x.hta, x.vp, .int x.a0])), (x.hta, .inr (1, [.ref x.hty, .int (nI x.k)])), (x.hty, .inl (cB, 256, .inl (x.f))), (x.hba, .inr (1, [.ref x.hby, .int (nI x.kb)])), (x.hby, .inl (cB, 256, .inl (x.fb))), (x.hwr, .inr (3, [.ref x.hrw, .int (nI x.q)])), (x.hrw, .inl (cB, 512, .inl (x.g))), (x.hb1, .inr (1, [.ref x.hy, .int (nI x.ku)])), (x.hy, .inl (cB, 256, .inl (x.fu))), (x.hc, .inr (1, [.ref x.hcy, .int (nI x.kc)])), (x.hcy, .inl (cB, 256, .inl (x.fc)))]) (pick [0, 1, 12, 13, 2, 3, 4, 5, 6, 7, 8, 9, 10, 11, 14, 15] 16 rfl rfl rfl))) [0] rfl hk
set_option maxHeartbeats 4000000 in
set_option maxRecDepth 100000 in
theorem k_steps (l : Launch) (hl9 : l.stackTraces = false) (dC : Nat → ClassId) (dI : Nat → Nat → Nat) (sz : Nat) (h0 : Nat) (cB cD cR : ClassId) (x : KX) (ds : Nat → Option Dc) (σ : Sg) (hs : sOk σ) (hk : kOk σ x ds) : kMet l y_K_steps k_K_steps ex1 (dC, dI) sz h0 cB cD cR x ds [.ref h0] (sSteps σ) := by
  cases hdn : σ.down with
  | true =>
    have hW : kW h0 cB cD cR x ds = ([(h0, .inr (0, [.ref x.hd, .ref x.hb1, .ref x.hf, .ref x.hc, .ref x.hmk, .ref x.hwr, .ref x.hp, .int x.md, .int x.fs])), (x.hp, .inr (4, [.int 1, .int x.gi, .int x.wl])), (x.hd, .inl (cD, 8, .inr (.inr (.inr (.inr ((dsA ds))))))), (x.hmk, .inr (2, [.ref x.hba, .ref x.hta, x.vp, .int x.a0])), (x.hta, .inr (1, [.ref x.hty, .int (nI x.k)])), (x.hty, .inl (cB, 256, .inl (x.f))), (x.hba, .inr (1, [.ref x.hby, .int (nI x.kb)])), (x.hby, .inl (cB, 256, .inl (x.fb))), (x.hwr, .inr (3, [.ref x.hrw, .int (nI x.q)])), (x.hrw, .inl (cB, 512, .inl (x.g))), (x.hb1, .inr (1, [.ref x.hy, .int (nI x.ku)])), (x.hy, .inl (cB, 256, .inl (x.fu))), (x.hf, .inr (1, [.ref x.hfy, .int (nI x.kf)])), (x.hfy, .inl (cB, 256, .inl (x.ff))), (x.hc, .inr (1, [.ref x.hcy, .int (nI x.kc)])), (x.hcy, .inl (cB, 256, .inl (x.fc)))] : va_W) ++ pW cB cR ds := by unfold kW; rw [hk.dw, hdn]; rfl
    have hst : (sSteps σ) = (σ, 1, 0) := by unfold sSteps; rw [if_pos hdn]
    rw [hst]
    exact kDown (x_steps_D l hl9 dC dI sz h0 (.ref x.hd) (.ref x.hb1) (.ref x.hf) (.ref x.hc) (.ref x.hmk) (.ref x.hwr) x.md x.fs x.hp x.gi x.wl) (by decide) ((List.Perm.of_eq hW).trans (km0 (X1 := [(h0, .inr (0, [.ref x.hd, .ref x.hb1, .ref x.hf, .ref x.hc, .ref x.hmk, .ref x.hwr, .ref x.hp, .int x.md, .int x.fs])), (x.hp, .inr (4, [.int 1, .int x.gi, .int x.wl]))]) (X2 := [(x.hd, .inl (cD, 8, .inr (.inr (.inr (.inr ((dsA ds))))))), (x.hmk, .inr (2, [.ref x.hba, .ref x.hta, x.vp, .int x.a0])), (x.hta, .inr (1, [.ref x.hty, .int (nI x.k)])), (x.hty, .inl (cB, 256, .inl (x.f))), (x.hba, .inr (1, [.ref x.hby, .int (nI x.kb)])), (x.hby, .inl (cB, 256, .inl (x.fb))), (x.hwr, .inr (3, [.ref x.hrw, .int (nI x.q)])), (x.hrw, .inl (cB, 512, .inl (x.g))), (x.hb1, .inr (1, [.ref x.hy, .int (nI x.ku)])), (x.hy, .inl (cB, 256, .inl (x.fu))), (x.hf, .inr (1, [.ref x.hfy, .int (nI x.kf)])), (x.hfy, .inl (cB, 256, .inl (x.ff))), (x.hc, .inr (1, [.ref x.hcy, .int (nI x.kc)])), (x.hcy, .inl (cB, 256, .inl (x.fc)))]) (pick [0, 1, 2, 3, 4, 5, 6, 7, 8, 9, 10, 11, 12, 13, 14, 15] 16 rfl rfl rfl))) [] rfl hk (by decide) rfl
  | false =>
    obtain ⟨hgi, hgw⟩ := hk.gi hdn
    have hg : ∀ w, σ.go = some w → x.wl = nI w ∧ w < 2 ^ 31 := fun w h => ⟨hgw w h, hs.go w h⟩
    have hd0 : (0 : Int32) = bI σ.down := by rw [hdn]; rfl
    have hndn : ¬ σ.down = true := by rw [hdn]; decide
    have hW : kW h0 cB cD cR x ds = ([(h0, .inr (0, [.ref x.hd, .ref x.hb1, .ref x.hf, .ref x.hc, .ref x.hmk, .ref x.hwr, .ref x.hp, .int (nI σ.nd), .int σ.stp])), (x.hp, .inr (4, [.int 0, .int (bI σ.go.isSome), .int x.wl])), (x.hd, .inl (cD, 8, .inr (.inr (.inr (.inr ((dsA ds))))))), (x.hmk, .inr (2, [.ref x.hba, .ref x.hta, x.vp, .int x.a0])), (x.hta, .inr (1, [.ref x.hty, .int (nI x.k)])), (x.hty, .inl (cB, 256, .inl (x.f))), (x.hba, .inr (1, [.ref x.hby, .int (nI x.kb)])), (x.hby, .inl (cB, 256, .inl (x.fb))), (x.hwr, .inr (3, [.ref x.hrw, .int (nI x.q)])), (x.hrw, .inl (cB, 512, .inl (x.g))), (x.hb1, .inr (1, [.ref x.hy, .int (nI x.ku)])), (x.hy, .inl (cB, 256, .inl (x.fu))), (x.hf, .inr (1, [.ref x.hfy, .int (nI x.kf)])), (x.hfy, .inl (cB, 256, .inl (x.ff))), (x.hc, .inr (1, [.ref x.hcy, .int (nI x.kc)])), (x.hcy, .inl (cB, 256, .inl (x.fc)))] : va_W) ++ pW cB cR ds := by unfold kW; rw [hk.dw, hdn, hgi, hk.md, hk.fs]; rfl
    have hst : (sSteps σ) = (σ, 0, σ.stp) := by unfold sSteps; rw [if_neg hndn]
    rw [hst]
    exact kPure (g_steps l dC dI h0 (.ref x.hd) (.ref x.hb1) (.ref x.hf) (.ref x.hc) (.ref x.hmk) (.ref x.hwr) (nI σ.nd) σ.stp x.hp (bI σ.go.isSome) x.wl) (by decide) ((List.Perm.of_eq hW).trans (km0 (X1 := [(h0, .inr (0, [.ref x.hd, .ref x.hb1, .ref x.hf, .ref x.hc, .ref x.hmk, .ref x.hwr, .ref x.hp, .int (nI σ.nd), .int σ.stp])), (x.hp, .inr (4, [.int 0, .int (bI σ.go.isSome), .int x.wl]))]) (X2 := [(x.hd, .inl (cD, 8, .inr (.inr (.inr (.inr ((dsA ds))))))), (x.hmk, .inr (2, [.ref x.hba, .ref x.hta, x.vp, .int x.a0])), (x.hta, .inr (1, [.ref x.hty, .int (nI x.k)])), (x.hty, .inl (cB, 256, .inl (x.f))), (x.hba, .inr (1, [.ref x.hby, .int (nI x.kb)])), (x.hby, .inl (cB, 256, .inl (x.fb))), (x.hwr, .inr (3, [.ref x.hrw, .int (nI x.q)])), (x.hrw, .inl (cB, 512, .inl (x.g))), (x.hb1, .inr (1, [.ref x.hy, .int (nI x.ku)])), (x.hy, .inl (cB, 256, .inl (x.fu))), (x.hf, .inr (1, [.ref x.hfy, .int (nI x.kf)])), (x.hfy, .inl (cB, 256, .inl (x.ff))), (x.hc, .inr (1, [.ref x.hcy, .int (nI x.kc)])), (x.hcy, .inl (cB, 256, .inl (x.fc)))]) (pick [0, 1, 2, 3, 4, 5, 6, 7, 8, 9, 10, 11, 12, 13, 14, 15] 16 rfl rfl rfl))) [] rfl hk
set_option maxHeartbeats 4000000 in
set_option maxRecDepth 100000 in
theorem k_cutAfter (l : Launch) (hl9 : l.stackTraces = false) (dC : Nat → ClassId) (dI : Nat → Nat → Nat) (sz : Nat) (h0 : Nat) (cB cD cR : ClassId) (x : KX) (ds : Nat → Option Dc) (σ : Sg) (a1 : Int32) (hs : sOk σ) (hk : kOk σ x ds) : kMet l y_K_cutAfter k_K_cutAfter ex1 (dC, dI) sz h0 cB cD cR x ds [.ref h0, .int a1] (sCut σ a1) := by
  cases hdn : σ.down with
  | true =>
    have hW : kW h0 cB cD cR x ds = ([(h0, .inr (0, [.ref x.hd, .ref x.hb1, .ref x.hf, .ref x.hc, .ref x.hmk, .ref x.hwr, .ref x.hp, .int x.md, .int x.fs])), (x.hp, .inr (4, [.int 1, .int x.gi, .int x.wl])), (x.hd, .inl (cD, 8, .inr (.inr (.inr (.inr ((dsA ds))))))), (x.hmk, .inr (2, [.ref x.hba, .ref x.hta, x.vp, .int x.a0])), (x.hta, .inr (1, [.ref x.hty, .int (nI x.k)])), (x.hty, .inl (cB, 256, .inl (x.f))), (x.hba, .inr (1, [.ref x.hby, .int (nI x.kb)])), (x.hby, .inl (cB, 256, .inl (x.fb))), (x.hwr, .inr (3, [.ref x.hrw, .int (nI x.q)])), (x.hrw, .inl (cB, 512, .inl (x.g))), (x.hb1, .inr (1, [.ref x.hy, .int (nI x.ku)])), (x.hy, .inl (cB, 256, .inl (x.fu))), (x.hf, .inr (1, [.ref x.hfy, .int (nI x.kf)])), (x.hfy, .inl (cB, 256, .inl (x.ff))), (x.hc, .inr (1, [.ref x.hcy, .int (nI x.kc)])), (x.hcy, .inl (cB, 256, .inl (x.fc)))] : va_W) ++ pW cB cR ds := by unfold kW; rw [hk.dw, hdn]; rfl
    have hst : (sCut σ a1) = (σ, 1, 0) := by unfold sCut; rw [if_pos hdn]
    rw [hst]
    exact kDown (x_cutAfter_D l hl9 dC dI sz h0 (.ref x.hd) (.ref x.hb1) (.ref x.hf) (.ref x.hc) (.ref x.hmk) (.ref x.hwr) x.md x.fs x.hp x.gi x.wl a1) (by decide) ((List.Perm.of_eq hW).trans (km0 (X1 := [(h0, .inr (0, [.ref x.hd, .ref x.hb1, .ref x.hf, .ref x.hc, .ref x.hmk, .ref x.hwr, .ref x.hp, .int x.md, .int x.fs])), (x.hp, .inr (4, [.int 1, .int x.gi, .int x.wl]))]) (X2 := [(x.hd, .inl (cD, 8, .inr (.inr (.inr (.inr ((dsA ds))))))), (x.hmk, .inr (2, [.ref x.hba, .ref x.hta, x.vp, .int x.a0])), (x.hta, .inr (1, [.ref x.hty, .int (nI x.k)])), (x.hty, .inl (cB, 256, .inl (x.f))), (x.hba, .inr (1, [.ref x.hby, .int (nI x.kb)])), (x.hby, .inl (cB, 256, .inl (x.fb))), (x.hwr, .inr (3, [.ref x.hrw, .int (nI x.q)])), (x.hrw, .inl (cB, 512, .inl (x.g))), (x.hb1, .inr (1, [.ref x.hy, .int (nI x.ku)])), (x.hy, .inl (cB, 256, .inl (x.fu))), (x.hf, .inr (1, [.ref x.hfy, .int (nI x.kf)])), (x.hfy, .inl (cB, 256, .inl (x.ff))), (x.hc, .inr (1, [.ref x.hcy, .int (nI x.kc)])), (x.hcy, .inl (cB, 256, .inl (x.fc)))]) (pick [0, 1, 2, 3, 4, 5, 6, 7, 8, 9, 10, 11, 12, 13, 14, 15] 16 rfl rfl rfl))) [] rfl hk (by decide) rfl
  | false =>
    obtain ⟨hgi, hgw⟩ := hk.gi hdn
    have hg : ∀ w, σ.go = some w → x.wl = nI w ∧ w < 2 ^ 31 := fun w h => ⟨hgw w h, hs.go w h⟩
    have hd0 : (0 : Int32) = bI σ.down := by rw [hdn]; rfl
    have hndn : ¬ σ.down = true := by rw [hdn]; decide
    have hW : kW h0 cB cD cR x ds = ([(h0, .inr (0, [.ref x.hd, .ref x.hb1, .ref x.hf, .ref x.hc, .ref x.hmk, .ref x.hwr, .ref x.hp, .int (nI σ.nd), .int σ.stp])), (x.hp, .inr (4, [.int 0, .int (bI σ.go.isSome), .int x.wl])), (x.hd, .inl (cD, 8, .inr (.inr (.inr (.inr ((dsA ds))))))), (x.hmk, .inr (2, [.ref x.hba, .ref x.hta, x.vp, .int x.a0])), (x.hta, .inr (1, [.ref x.hty, .int (nI x.k)])), (x.hty, .inl (cB, 256, .inl (x.f))), (x.hba, .inr (1, [.ref x.hby, .int (nI x.kb)])), (x.hby, .inl (cB, 256, .inl (x.fb))), (x.hwr, .inr (3, [.ref x.hrw, .int (nI x.q)])), (x.hrw, .inl (cB, 512, .inl (x.g))), (x.hb1, .inr (1, [.ref x.hy, .int (nI x.ku)])), (x.hy, .inl (cB, 256, .inl (x.fu))), (x.hf, .inr (1, [.ref x.hfy, .int (nI x.kf)])), (x.hfy, .inl (cB, 256, .inl (x.ff))), (x.hc, .inr (1, [.ref x.hcy, .int (nI x.kc)])), (x.hcy, .inl (cB, 256, .inl (x.fc)))] : va_W) ++ pW cB cR ds := by unfold kW; rw [hk.dw, hdn, hgi, hk.md, hk.fs]; rfl
    by_cases q : a1 < 0
    · have hst : (sCut σ a1) = (σ, 0, 0) := by unfold sCut; rw [if_neg hndn, if_pos q]
      rw [hst]
      exact kPure (g_cut_F l dC dI h0 (.ref x.hd) (.ref x.hb1) (.ref x.hf) (.ref x.hc) (.ref x.hmk) (.ref x.hwr) (nI σ.nd) σ.stp x.hp (bI σ.go.isSome) x.wl a1 q) (by decide) ((List.Perm.of_eq hW).trans (km0 (X1 := [(h0, .inr (0, [.ref x.hd, .ref x.hb1, .ref x.hf, .ref x.hc, .ref x.hmk, .ref x.hwr, .ref x.hp, .int (nI σ.nd), .int σ.stp])), (x.hp, .inr (4, [.int 0, .int (bI σ.go.isSome), .int x.wl]))]) (X2 := [(x.hd, .inl (cD, 8, .inr (.inr (.inr (.inr ((dsA ds))))))), (x.hmk, .inr (2, [.ref x.hba, .ref x.hta, x.vp, .int x.a0])), (x.hta, .inr (1, [.ref x.hty, .int (nI x.k)])), (x.hty, .inl (cB, 256, .inl (x.f))), (x.hba, .inr (1, [.ref x.hby, .int (nI x.kb)])), (x.hby, .inl (cB, 256, .inl (x.fb))), (x.hwr, .inr (3, [.ref x.hrw, .int (nI x.q)])), (x.hrw, .inl (cB, 512, .inl (x.g))), (x.hb1, .inr (1, [.ref x.hy, .int (nI x.ku)])), (x.hy, .inl (cB, 256, .inl (x.fu))), (x.hf, .inr (1, [.ref x.hfy, .int (nI x.kf)])), (x.hfy, .inl (cB, 256, .inl (x.ff))), (x.hc, .inr (1, [.ref x.hcy, .int (nI x.kc)])), (x.hcy, .inl (cB, 256, .inl (x.fc)))]) (pick [0, 1, 2, 3, 4, 5, 6, 7, 8, 9, 10, 11, 12, 13, 14, 15] 16 rfl rfl rfl))) [] rfl hk
    · have hst : (sCut σ a1) = (sgG σ (some a1.toNatClampNeg), 0, 1) := by unfold sCut; rw [if_neg hndn, if_neg q]
      rw [hst]
      refine kRet (g_cut_T l dC dI sz h0 (.ref x.hd) (.ref x.hb1) (.ref x.hf) (.ref x.hc) (.ref x.hmk) (.ref x.hwr) (nI σ.nd) σ.stp x.hp (bI σ.go.isSome) x.wl a1 (Int32.not_lt.mp q)) (by decide) ((List.Perm.of_eq hW).trans (km0 (X1 := [(h0, .inr (0, [.ref x.hd, .ref x.hb1, .ref x.hf, .ref x.hc, .ref x.hmk, .ref x.hwr, .ref x.hp, .int (nI σ.nd), .int σ.stp])), (x.hp, .inr (4, [.int 0, .int (bI σ.go.isSome), .int x.wl]))]) (X2 := [(x.hd, .inl (cD, 8, .inr (.inr (.inr (.inr ((dsA ds))))))), (x.hmk, .inr (2, [.ref x.hba, .ref x.hta, x.vp, .int x.a0])), (x.hta, .inr (1, [.ref x.hty, .int (nI x.k)])), (x.hty, .inl (cB, 256, .inl (x.f))), (x.hba, .inr (1, [.ref x.hby, .int (nI x.kb)])), (x.hby, .inl (cB, 256, .inl (x.fb))), (x.hwr, .inr (3, [.ref x.hrw, .int (nI x.q)])), (x.hrw, .inl (cB, 512, .inl (x.g))), (x.hb1, .inr (1, [.ref x.hy, .int (nI x.ku)])), (x.hy, .inl (cB, 256, .inl (x.fu))), (x.hf, .inr (1, [.ref x.hfy, .int (nI x.kf)])), (x.hfy, .inl (cB, 256, .inl (x.ff))), (x.hc, .inr (1, [.ref x.hcy, .int (nI x.kc)])), (x.hcy, .inl (cB, 256, .inl (x.fc)))]) (pick [0, 1, 2, 3, 4, 5, 6, 7, 8, 9, 10, 11, 12, 13, 14, 15] 16 rfl rfl rfl))) [] rfl (fun r h => ⟨rfl, h⟩) (fun t hb fr => ?_)
      exact ⟨(x.hd, x.hb1, x.hy, x.hf, x.hfy, x.hc, x.hcy, x.hmk, x.hta, x.hty, x.hba, x.hby, x.hwr, x.hrw, x.hp, 0, 1, a1, (nI σ.nd), σ.stp, x.a0, x.vp, x.k, x.kb, x.q, x.ku, x.kf, x.kc, x.f, x.fb, x.g, x.fu, x.ff, x.fc), ds, (kOk.mk hd0 (fun _ => ⟨rfl, fun w h => by obtain ⟨j, hj, rfl⟩ := nI_of q; have h : some (nI j).toNatClampNeg = some w := h; rw [nI_clamp hj] at h; cases h; rfl⟩) rfl rfl hk.ds hk.ok hk.kp hk.bu hk.fe hk.mt hk.mb hk.cm), fr _ _ _ hb (kz ((List.Perm.of_eq (rfl : kW h0 cB cD cR (x.hd, x.hb1, x.hy, x.hf, x.hfy, x.hc, x.hcy, x.hmk, x.hta, x.hty, x.hba, x.hby, x.hwr, x.hrw, x.hp, 0, 1, a1, (nI σ.nd), σ.stp, x.a0, x.vp, x.k, x.kb, x.q, x.ku, x.kf, x.kc, x.f, x.fb, x.g, x.fu, x.ff, x.fc) ds = ([(h0, .inr (0, [.ref x.hd, .ref x.hb1, .ref x.hf, .ref x.hc, .ref x.hmk, .ref x.hwr, .ref x.hp, .int (nI σ.nd), .int σ.stp])), (x.hp, .inr (4, [.int 0, .int 1, .int a1])), (x.hd, .inl (cD, 8, .inr (.inr (.inr (.inr ((dsA ds))))))), (x.hmk, .inr (2, [.ref x.hba, .ref x.hta, x.vp, .int x.a0])), (x.hta, .inr (1, [.ref x.hty, .int (nI x.k)])), (x.hty, .inl (cB, 256, .inl (x.f))), (x.hba, .inr (1, [.ref x.hby, .int (nI x.kb)])), (x.hby, .inl (cB, 256, .inl (x.fb))), (x.hwr, .inr (3, [.ref x.hrw, .int (nI x.q)])), (x.hrw, .inl (cB, 512, .inl (x.g))), (x.hb1, .inr (1, [.ref x.hy, .int (nI x.ku)])), (x.hy, .inl (cB, 256, .inl (x.fu))), (x.hf, .inr (1, [.ref x.hfy, .int (nI x.kf)])), (x.hfy, .inl (cB, 256, .inl (x.ff))), (x.hc, .inr (1, [.ref x.hcy, .int (nI x.kc)])), (x.hcy, .inl (cB, 256, .inl (x.fc)))] : va_W) ++ pW cB cR ds)).trans (km0 (X1 := [(h0, .inr (0, [.ref x.hd, .ref x.hb1, .ref x.hf, .ref x.hc, .ref x.hmk, .ref x.hwr, .ref x.hp, .int (nI σ.nd), .int σ.stp])), (x.hp, .inr (4, [.int 0, .int 1, .int a1]))]) (X2 := [(x.hd, .inl (cD, 8, .inr (.inr (.inr (.inr ((dsA ds))))))), (x.hmk, .inr (2, [.ref x.hba, .ref x.hta, x.vp, .int x.a0])), (x.hta, .inr (1, [.ref x.hty, .int (nI x.k)])), (x.hty, .inl (cB, 256, .inl (x.f))), (x.hba, .inr (1, [.ref x.hby, .int (nI x.kb)])), (x.hby, .inl (cB, 256, .inl (x.fb))), (x.hwr, .inr (3, [.ref x.hrw, .int (nI x.q)])), (x.hrw, .inl (cB, 512, .inl (x.g))), (x.hb1, .inr (1, [.ref x.hy, .int (nI x.ku)])), (x.hy, .inl (cB, 256, .inl (x.fu))), (x.hf, .inr (1, [.ref x.hfy, .int (nI x.kf)])), (x.hfy, .inl (cB, 256, .inl (x.ff))), (x.hc, .inr (1, [.ref x.hcy, .int (nI x.kc)])), (x.hcy, .inl (cB, 256, .inl (x.fc)))]) (pick [0, 1, 2, 3, 4, 5, 6, 7, 8, 9, 10, 11, 12, 13, 14, 15] 16 rfl rfl rfl))))⟩
set_option maxHeartbeats 4000000 in
set_option maxRecDepth 100000 in
theorem k_start (l : Launch) (hl9 : l.stackTraces = false) (dC : Nat → ClassId) (dI : Nat → Nat → Nat) (sz : Nat) (h0 : Nat) (cB cD cR : ClassId) (x : KX) (ds : Nat → Option Dc) (σ : Sg) (hs : sOk σ) (hk : kOk σ x ds) : kMet l y_K_start k_K_start ex1 (dC, dI) sz h0 cB cD cR x ds [.ref h0] (sStart σ) := by
  cases hdn : σ.down with
  | true =>
    have hW : kW h0 cB cD cR x ds = ([(h0, .inr (0, [.ref x.hd, .ref x.hb1, .ref x.hf, .ref x.hc, .ref x.hmk, .ref x.hwr, .ref x.hp, .int x.md, .int x.fs])), (x.hp, .inr (4, [.int 1, .int x.gi, .int x.wl])), (x.hd, .inl (cD, 8, .inr (.inr (.inr (.inr ((dsA ds))))))), (x.hmk, .inr (2, [.ref x.hba, .ref x.hta, x.vp, .int x.a0])), (x.hta, .inr (1, [.ref x.hty, .int (nI x.k)])), (x.hty, .inl (cB, 256, .inl (x.f))), (x.hba, .inr (1, [.ref x.hby, .int (nI x.kb)])), (x.hby, .inl (cB, 256, .inl (x.fb))), (x.hwr, .inr (3, [.ref x.hrw, .int (nI x.q)])), (x.hrw, .inl (cB, 512, .inl (x.g))), (x.hb1, .inr (1, [.ref x.hy, .int (nI x.ku)])), (x.hy, .inl (cB, 256, .inl (x.fu))), (x.hf, .inr (1, [.ref x.hfy, .int (nI x.kf)])), (x.hfy, .inl (cB, 256, .inl (x.ff))), (x.hc, .inr (1, [.ref x.hcy, .int (nI x.kc)])), (x.hcy, .inl (cB, 256, .inl (x.fc)))] : va_W) ++ pW cB cR ds := by unfold kW; rw [hk.dw, hdn]; rfl
    have hst : (sStart σ) = (sgS σ, 0, 1) := by unfold sStart; rw [if_pos hdn]
    rw [hst]
    refine kRet (g_start_T l dC dI sz h0 (.ref x.hd) (.ref x.hb1) (.ref x.hf) (.ref x.hc) (.ref x.hmk) (.ref x.hwr) x.md x.fs x.hp x.gi x.wl) (by decide) ((List.Perm.of_eq hW).trans (km0 (X1 := [(h0, .inr (0, [.ref x.hd, .ref x.hb1, .ref x.hf, .ref x.hc, .ref x.hmk, .ref x.hwr, .ref x.hp, .int x.md, .int x.fs])), (x.hp, .inr (4, [.int 1, .int x.gi, .int x.wl]))]) (X2 := [(x.hd, .inl (cD, 8, .inr (.inr (.inr (.inr ((dsA ds))))))), (x.hmk, .inr (2, [.ref x.hba, .ref x.hta, x.vp, .int x.a0])), (x.hta, .inr (1, [.ref x.hty, .int (nI x.k)])), (x.hty, .inl (cB, 256, .inl (x.f))), (x.hba, .inr (1, [.ref x.hby, .int (nI x.kb)])), (x.hby, .inl (cB, 256, .inl (x.fb))), (x.hwr, .inr (3, [.ref x.hrw, .int (nI x.q)])), (x.hrw, .inl (cB, 512, .inl (x.g))), (x.hb1, .inr (1, [.ref x.hy, .int (nI x.ku)])), (x.hy, .inl (cB, 256, .inl (x.fu))), (x.hf, .inr (1, [.ref x.hfy, .int (nI x.kf)])), (x.hfy, .inl (cB, 256, .inl (x.ff))), (x.hc, .inr (1, [.ref x.hcy, .int (nI x.kc)])), (x.hcy, .inl (cB, 256, .inl (x.fc)))]) (pick [0, 1, 2, 3, 4, 5, 6, 7, 8, 9, 10, 11, 12, 13, 14, 15] 16 rfl rfl rfl))) [] rfl (fun r h => ⟨rfl, h⟩) (fun t hb fr => ?_)
    exact ⟨(x.hd, x.hb1, x.hy, x.hf, x.hfy, x.hc, x.hcy, x.hmk, x.hta, x.hty, x.hba, x.hby, x.hwr, x.hrw, x.hp, 0, 0, x.wl, x.md, x.fs, x.a0, x.vp, x.k, x.kb, x.q, x.ku, x.kf, x.kc, x.f, x.fb, x.g, x.fu, x.ff, x.fc), ds, (kOk.mk rfl (fun _ => ⟨rfl, fun w h => by cases h⟩) hk.md hk.fs hk.ds hk.ok hk.kp hk.bu hk.fe hk.mt hk.mb hk.cm), fr _ _ _ hb (kz ((List.Perm.of_eq (rfl : kW h0 cB cD cR (x.hd, x.hb1, x.hy, x.hf, x.hfy, x.hc, x.hcy, x.hmk, x.hta, x.hty, x.hba, x.hby, x.hwr, x.hrw, x.hp, 0, 0, x.wl, x.md, x.fs, x.a0, x.vp, x.k, x.kb, x.q, x.ku, x.kf, x.kc, x.f, x.fb, x.g, x.fu, x.ff, x.fc) ds = ([(h0, .inr (0, [.ref x.hd, .ref x.hb1, .ref x.hf, .ref x.hc, .ref x.hmk, .ref x.hwr, .ref x.hp, .int x.md, .int x.fs])), (x.hp, .inr (4, [.int 0, .int 0, .int x.wl])), (x.hd, .inl (cD, 8, .inr (.inr (.inr (.inr ((dsA ds))))))), (x.hmk, .inr (2, [.ref x.hba, .ref x.hta, x.vp, .int x.a0])), (x.hta, .inr (1, [.ref x.hty, .int (nI x.k)])), (x.hty, .inl (cB, 256, .inl (x.f))), (x.hba, .inr (1, [.ref x.hby, .int (nI x.kb)])), (x.hby, .inl (cB, 256, .inl (x.fb))), (x.hwr, .inr (3, [.ref x.hrw, .int (nI x.q)])), (x.hrw, .inl (cB, 512, .inl (x.g))), (x.hb1, .inr (1, [.ref x.hy, .int (nI x.ku)])), (x.hy, .inl (cB, 256, .inl (x.fu))), (x.hf, .inr (1, [.ref x.hfy, .int (nI x.kf)])), (x.hfy, .inl (cB, 256, .inl (x.ff))), (x.hc, .inr (1, [.ref x.hcy, .int (nI x.kc)])), (x.hcy, .inl (cB, 256, .inl (x.fc)))] : va_W) ++ pW cB cR ds)).trans (km0 (X1 := [(h0, .inr (0, [.ref x.hd, .ref x.hb1, .ref x.hf, .ref x.hc, .ref x.hmk, .ref x.hwr, .ref x.hp, .int x.md, .int x.fs])), (x.hp, .inr (4, [.int 0, .int 0, .int x.wl]))]) (X2 := [(x.hd, .inl (cD, 8, .inr (.inr (.inr (.inr ((dsA ds))))))), (x.hmk, .inr (2, [.ref x.hba, .ref x.hta, x.vp, .int x.a0])), (x.hta, .inr (1, [.ref x.hty, .int (nI x.k)])), (x.hty, .inl (cB, 256, .inl (x.f))), (x.hba, .inr (1, [.ref x.hby, .int (nI x.kb)])), (x.hby, .inl (cB, 256, .inl (x.fb))), (x.hwr, .inr (3, [.ref x.hrw, .int (nI x.q)])), (x.hrw, .inl (cB, 512, .inl (x.g))), (x.hb1, .inr (1, [.ref x.hy, .int (nI x.ku)])), (x.hy, .inl (cB, 256, .inl (x.fu))), (x.hf, .inr (1, [.ref x.hfy, .int (nI x.kf)])), (x.hfy, .inl (cB, 256, .inl (x.ff))), (x.hc, .inr (1, [.ref x.hcy, .int (nI x.kc)])), (x.hcy, .inl (cB, 256, .inl (x.fc)))]) (pick [0, 1, 2, 3, 4, 5, 6, 7, 8, 9, 10, 11, 12, 13, 14, 15] 16 rfl rfl rfl))))⟩
  | false =>
    obtain ⟨hgi, hgw⟩ := hk.gi hdn
    have hg : ∀ w, σ.go = some w → x.wl = nI w ∧ w < 2 ^ 31 := fun w h => ⟨hgw w h, hs.go w h⟩
    have hd0 : (0 : Int32) = bI σ.down := by rw [hdn]; rfl
    have hndn : ¬ σ.down = true := by rw [hdn]; decide
    have hW : kW h0 cB cD cR x ds = ([(h0, .inr (0, [.ref x.hd, .ref x.hb1, .ref x.hf, .ref x.hc, .ref x.hmk, .ref x.hwr, .ref x.hp, .int (nI σ.nd), .int σ.stp])), (x.hp, .inr (4, [.int 0, .int (bI σ.go.isSome), .int x.wl])), (x.hd, .inl (cD, 8, .inr (.inr (.inr (.inr ((dsA ds))))))), (x.hmk, .inr (2, [.ref x.hba, .ref x.hta, x.vp, .int x.a0])), (x.hta, .inr (1, [.ref x.hty, .int (nI x.k)])), (x.hty, .inl (cB, 256, .inl (x.f))), (x.hba, .inr (1, [.ref x.hby, .int (nI x.kb)])), (x.hby, .inl (cB, 256, .inl (x.fb))), (x.hwr, .inr (3, [.ref x.hrw, .int (nI x.q)])), (x.hrw, .inl (cB, 512, .inl (x.g))), (x.hb1, .inr (1, [.ref x.hy, .int (nI x.ku)])), (x.hy, .inl (cB, 256, .inl (x.fu))), (x.hf, .inr (1, [.ref x.hfy, .int (nI x.kf)])), (x.hfy, .inl (cB, 256, .inl (x.ff))), (x.hc, .inr (1, [.ref x.hcy, .int (nI x.kc)])), (x.hcy, .inl (cB, 256, .inl (x.fc)))] : va_W) ++ pW cB cR ds := by unfold kW; rw [hk.dw, hdn, hgi, hk.md, hk.fs]; rfl
    have hst : (sStart σ) = (σ, 0, 0) := by unfold sStart; rw [if_neg hndn]
    rw [hst]
    exact kPure (g_start_F l dC dI h0 (.ref x.hd) (.ref x.hb1) (.ref x.hf) (.ref x.hc) (.ref x.hmk) (.ref x.hwr) (nI σ.nd) σ.stp x.hp (bI σ.go.isSome) x.wl) (by decide) ((List.Perm.of_eq hW).trans (km0 (X1 := [(h0, .inr (0, [.ref x.hd, .ref x.hb1, .ref x.hf, .ref x.hc, .ref x.hmk, .ref x.hwr, .ref x.hp, .int (nI σ.nd), .int σ.stp])), (x.hp, .inr (4, [.int 0, .int (bI σ.go.isSome), .int x.wl]))]) (X2 := [(x.hd, .inl (cD, 8, .inr (.inr (.inr (.inr ((dsA ds))))))), (x.hmk, .inr (2, [.ref x.hba, .ref x.hta, x.vp, .int x.a0])), (x.hta, .inr (1, [.ref x.hty, .int (nI x.k)])), (x.hty, .inl (cB, 256, .inl (x.f))), (x.hba, .inr (1, [.ref x.hby, .int (nI x.kb)])), (x.hby, .inl (cB, 256, .inl (x.fb))), (x.hwr, .inr (3, [.ref x.hrw, .int (nI x.q)])), (x.hrw, .inl (cB, 512, .inl (x.g))), (x.hb1, .inr (1, [.ref x.hy, .int (nI x.ku)])), (x.hy, .inl (cB, 256, .inl (x.fu))), (x.hf, .inr (1, [.ref x.hfy, .int (nI x.kf)])), (x.hfy, .inl (cB, 256, .inl (x.ff))), (x.hc, .inr (1, [.ref x.hcy, .int (nI x.kc)])), (x.hcy, .inl (cB, 256, .inl (x.fc)))]) (pick [0, 1, 2, 3, 4, 5, 6, 7, 8, 9, 10, 11, 12, 13, 14, 15] 16 rfl rfl rfl))) [] rfl hk
set_option maxHeartbeats 4000000 in
set_option maxRecDepth 100000 in
theorem k_isDown (l : Launch) (hl9 : l.stackTraces = false) (dC : Nat → ClassId) (dI : Nat → Nat → Nat) (sz : Nat) (h0 : Nat) (cB cD cR : ClassId) (x : KX) (ds : Nat → Option Dc) (σ : Sg) (hs : sOk σ) (hk : kOk σ x ds) : kMet l y_K_isDown k_K_isDown ex1 (dC, dI) sz h0 cB cD cR x ds [.ref h0] (sIsDown σ) := by
  cases hdn : σ.down with
  | true =>
    have hW : kW h0 cB cD cR x ds = ([(h0, .inr (0, [.ref x.hd, .ref x.hb1, .ref x.hf, .ref x.hc, .ref x.hmk, .ref x.hwr, .ref x.hp, .int x.md, .int x.fs])), (x.hp, .inr (4, [.int 1, .int x.gi, .int x.wl])), (x.hd, .inl (cD, 8, .inr (.inr (.inr (.inr ((dsA ds))))))), (x.hmk, .inr (2, [.ref x.hba, .ref x.hta, x.vp, .int x.a0])), (x.hta, .inr (1, [.ref x.hty, .int (nI x.k)])), (x.hty, .inl (cB, 256, .inl (x.f))), (x.hba, .inr (1, [.ref x.hby, .int (nI x.kb)])), (x.hby, .inl (cB, 256, .inl (x.fb))), (x.hwr, .inr (3, [.ref x.hrw, .int (nI x.q)])), (x.hrw, .inl (cB, 512, .inl (x.g))), (x.hb1, .inr (1, [.ref x.hy, .int (nI x.ku)])), (x.hy, .inl (cB, 256, .inl (x.fu))), (x.hf, .inr (1, [.ref x.hfy, .int (nI x.kf)])), (x.hfy, .inl (cB, 256, .inl (x.ff))), (x.hc, .inr (1, [.ref x.hcy, .int (nI x.kc)])), (x.hcy, .inl (cB, 256, .inl (x.fc)))] : va_W) ++ pW cB cR ds := by unfold kW; rw [hk.dw, hdn]; rfl
    have hst : (sIsDown σ) = (σ, 0, 1) := by unfold sIsDown; rw [hdn]; rfl
    rw [hst]
    exact kPure (g_isDown_T l dC dI h0 (.ref x.hd) (.ref x.hb1) (.ref x.hf) (.ref x.hc) (.ref x.hmk) (.ref x.hwr) x.md x.fs x.hp x.gi x.wl) (by decide) ((List.Perm.of_eq hW).trans (km0 (X1 := [(h0, .inr (0, [.ref x.hd, .ref x.hb1, .ref x.hf, .ref x.hc, .ref x.hmk, .ref x.hwr, .ref x.hp, .int x.md, .int x.fs])), (x.hp, .inr (4, [.int 1, .int x.gi, .int x.wl]))]) (X2 := [(x.hd, .inl (cD, 8, .inr (.inr (.inr (.inr ((dsA ds))))))), (x.hmk, .inr (2, [.ref x.hba, .ref x.hta, x.vp, .int x.a0])), (x.hta, .inr (1, [.ref x.hty, .int (nI x.k)])), (x.hty, .inl (cB, 256, .inl (x.f))), (x.hba, .inr (1, [.ref x.hby, .int (nI x.kb)])), (x.hby, .inl (cB, 256, .inl (x.fb))), (x.hwr, .inr (3, [.ref x.hrw, .int (nI x.q)])), (x.hrw, .inl (cB, 512, .inl (x.g))), (x.hb1, .inr (1, [.ref x.hy, .int (nI x.ku)])), (x.hy, .inl (cB, 256, .inl (x.fu))), (x.hf, .inr (1, [.ref x.hfy, .int (nI x.kf)])), (x.hfy, .inl (cB, 256, .inl (x.ff))), (x.hc, .inr (1, [.ref x.hcy, .int (nI x.kc)])), (x.hcy, .inl (cB, 256, .inl (x.fc)))]) (pick [0, 1, 2, 3, 4, 5, 6, 7, 8, 9, 10, 11, 12, 13, 14, 15] 16 rfl rfl rfl))) [] rfl hk
  | false =>
    obtain ⟨hgi, hgw⟩ := hk.gi hdn
    have hg : ∀ w, σ.go = some w → x.wl = nI w ∧ w < 2 ^ 31 := fun w h => ⟨hgw w h, hs.go w h⟩
    have hd0 : (0 : Int32) = bI σ.down := by rw [hdn]; rfl
    have hndn : ¬ σ.down = true := by rw [hdn]; decide
    have hW : kW h0 cB cD cR x ds = ([(h0, .inr (0, [.ref x.hd, .ref x.hb1, .ref x.hf, .ref x.hc, .ref x.hmk, .ref x.hwr, .ref x.hp, .int (nI σ.nd), .int σ.stp])), (x.hp, .inr (4, [.int 0, .int (bI σ.go.isSome), .int x.wl])), (x.hd, .inl (cD, 8, .inr (.inr (.inr (.inr ((dsA ds))))))), (x.hmk, .inr (2, [.ref x.hba, .ref x.hta, x.vp, .int x.a0])), (x.hta, .inr (1, [.ref x.hty, .int (nI x.k)])), (x.hty, .inl (cB, 256, .inl (x.f))), (x.hba, .inr (1, [.ref x.hby, .int (nI x.kb)])), (x.hby, .inl (cB, 256, .inl (x.fb))), (x.hwr, .inr (3, [.ref x.hrw, .int (nI x.q)])), (x.hrw, .inl (cB, 512, .inl (x.g))), (x.hb1, .inr (1, [.ref x.hy, .int (nI x.ku)])), (x.hy, .inl (cB, 256, .inl (x.fu))), (x.hf, .inr (1, [.ref x.hfy, .int (nI x.kf)])), (x.hfy, .inl (cB, 256, .inl (x.ff))), (x.hc, .inr (1, [.ref x.hcy, .int (nI x.kc)])), (x.hcy, .inl (cB, 256, .inl (x.fc)))] : va_W) ++ pW cB cR ds := by unfold kW; rw [hk.dw, hdn, hgi, hk.md, hk.fs]; rfl
    have hst : (sIsDown σ) = (σ, 0, 0) := by unfold sIsDown; rw [hdn]; rfl
    rw [hst]
    exact kPure (g_isDown_F l dC dI h0 (.ref x.hd) (.ref x.hb1) (.ref x.hf) (.ref x.hc) (.ref x.hmk) (.ref x.hwr) (nI σ.nd) σ.stp x.hp (bI σ.go.isSome) x.wl) (by decide) ((List.Perm.of_eq hW).trans (km0 (X1 := [(h0, .inr (0, [.ref x.hd, .ref x.hb1, .ref x.hf, .ref x.hc, .ref x.hmk, .ref x.hwr, .ref x.hp, .int (nI σ.nd), .int σ.stp])), (x.hp, .inr (4, [.int 0, .int (bI σ.go.isSome), .int x.wl]))]) (X2 := [(x.hd, .inl (cD, 8, .inr (.inr (.inr (.inr ((dsA ds))))))), (x.hmk, .inr (2, [.ref x.hba, .ref x.hta, x.vp, .int x.a0])), (x.hta, .inr (1, [.ref x.hty, .int (nI x.k)])), (x.hty, .inl (cB, 256, .inl (x.f))), (x.hba, .inr (1, [.ref x.hby, .int (nI x.kb)])), (x.hby, .inl (cB, 256, .inl (x.fb))), (x.hwr, .inr (3, [.ref x.hrw, .int (nI x.q)])), (x.hrw, .inl (cB, 512, .inl (x.g))), (x.hb1, .inr (1, [.ref x.hy, .int (nI x.ku)])), (x.hy, .inl (cB, 256, .inl (x.fu))), (x.hf, .inr (1, [.ref x.hfy, .int (nI x.kf)])), (x.hfy, .inl (cB, 256, .inl (x.ff))), (x.hc, .inr (1, [.ref x.hcy, .int (nI x.kc)])), (x.hcy, .inl (cB, 256, .inl (x.fc)))]) (pick [0, 1, 2, 3, 4, 5, 6, 7, 8, 9, 10, 11, 12, 13, 14, 15] 16 rfl rfl rfl))) [] rfl hk
set_option maxHeartbeats 4000000 in
set_option maxRecDepth 100000 in
theorem k_make (l : Launch) (hl9 : l.stackTraces = false) (dC : Nat → ClassId) (dI : Nat → Nat → Nat) (sz : Nat) (h0 : Nat) (cB cD cR : ClassId) (x : KX) (ds : Nat → Option Dc) (σ : Sg) (hs : sOk σ) (hk : kOk σ x ds) : kMet l y_K_make k_K_make ex1 (dC, dI) sz h0 cB cD cR x ds [.ref h0] (sMake σ) := by
  cases hdn : σ.down with
  | true =>
    have hW : kW h0 cB cD cR x ds = ([(h0, .inr (0, [.ref x.hd, .ref x.hb1, .ref x.hf, .ref x.hc, .ref x.hmk, .ref x.hwr, .ref x.hp, .int x.md, .int x.fs])), (x.hp, .inr (4, [.int 1, .int x.gi, .int x.wl])), (x.hd, .inl (cD, 8, .inr (.inr (.inr (.inr ((dsA ds))))))), (x.hmk, .inr (2, [.ref x.hba, .ref x.hta, x.vp, .int x.a0])), (x.hta, .inr (1, [.ref x.hty, .int (nI x.k)])), (x.hty, .inl (cB, 256, .inl (x.f))), (x.hba, .inr (1, [.ref x.hby, .int (nI x.kb)])), (x.hby, .inl (cB, 256, .inl (x.fb))), (x.hwr, .inr (3, [.ref x.hrw, .int (nI x.q)])), (x.hrw, .inl (cB, 512, .inl (x.g))), (x.hb1, .inr (1, [.ref x.hy, .int (nI x.ku)])), (x.hy, .inl (cB, 256, .inl (x.fu))), (x.hf, .inr (1, [.ref x.hfy, .int (nI x.kf)])), (x.hfy, .inl (cB, 256, .inl (x.ff))), (x.hc, .inr (1, [.ref x.hcy, .int (nI x.kc)])), (x.hcy, .inl (cB, 256, .inl (x.fc)))] : va_W) ++ pW cB cR ds := by unfold kW; rw [hk.dw, hdn]; rfl
    have hst : (sMake σ) = (σ, 1, 0) := by unfold sMake; rw [if_pos hdn]
    rw [hst]
    exact kDown (x_make_D l hl9 dC dI sz h0 (.ref x.hd) (.ref x.hb1) (.ref x.hf) (.ref x.hc) (.ref x.hmk) (.ref x.hwr) x.md x.fs x.hp x.gi x.wl) (by decide) ((List.Perm.of_eq hW).trans (km0 (X1 := [(h0, .inr (0, [.ref x.hd, .ref x.hb1, .ref x.hf, .ref x.hc, .ref x.hmk, .ref x.hwr, .ref x.hp, .int x.md, .int x.fs])), (x.hp, .inr (4, [.int 1, .int x.gi, .int x.wl]))]) (X2 := [(x.hd, .inl (cD, 8, .inr (.inr (.inr (.inr ((dsA ds))))))), (x.hmk, .inr (2, [.ref x.hba, .ref x.hta, x.vp, .int x.a0])), (x.hta, .inr (1, [.ref x.hty, .int (nI x.k)])), (x.hty, .inl (cB, 256, .inl (x.f))), (x.hba, .inr (1, [.ref x.hby, .int (nI x.kb)])), (x.hby, .inl (cB, 256, .inl (x.fb))), (x.hwr, .inr (3, [.ref x.hrw, .int (nI x.q)])), (x.hrw, .inl (cB, 512, .inl (x.g))), (x.hb1, .inr (1, [.ref x.hy, .int (nI x.ku)])), (x.hy, .inl (cB, 256, .inl (x.fu))), (x.hf, .inr (1, [.ref x.hfy, .int (nI x.kf)])), (x.hfy, .inl (cB, 256, .inl (x.ff))), (x.hc, .inr (1, [.ref x.hcy, .int (nI x.kc)])), (x.hcy, .inl (cB, 256, .inl (x.fc)))]) (pick [0, 1, 2, 3, 4, 5, 6, 7, 8, 9, 10, 11, 12, 13, 14, 15] 16 rfl rfl rfl))) [] rfl hk (by decide) rfl
  | false =>
    obtain ⟨hgi, hgw⟩ := hk.gi hdn
    have hg : ∀ w, σ.go = some w → x.wl = nI w ∧ w < 2 ^ 31 := fun w h => ⟨hgw w h, hs.go w h⟩
    have hd0 : (0 : Int32) = bI σ.down := by rw [hdn]; rfl
    have hndn : ¬ σ.down = true := by rw [hdn]; decide
    have hW : kW h0 cB cD cR x ds = ([(h0, .inr (0, [.ref x.hd, .ref x.hb1, .ref x.hf, .ref x.hc, .ref x.hmk, .ref x.hwr, .ref x.hp, .int (nI σ.nd), .int σ.stp])), (x.hp, .inr (4, [.int 0, .int (bI σ.go.isSome), .int x.wl])), (x.hd, .inl (cD, 8, .inr (.inr (.inr (.inr ((dsA ds))))))), (x.hmk, .inr (2, [.ref x.hba, .ref x.hta, x.vp, .int x.a0])), (x.hta, .inr (1, [.ref x.hty, .int (nI x.k)])), (x.hty, .inl (cB, 256, .inl (x.f))), (x.hba, .inr (1, [.ref x.hby, .int (nI x.kb)])), (x.hby, .inl (cB, 256, .inl (x.fb))), (x.hwr, .inr (3, [.ref x.hrw, .int (nI x.q)])), (x.hrw, .inl (cB, 512, .inl (x.g))), (x.hb1, .inr (1, [.ref x.hy, .int (nI x.ku)])), (x.hy, .inl (cB, 256, .inl (x.fu))), (x.hf, .inr (1, [.ref x.hfy, .int (nI x.kf)])), (x.hfy, .inl (cB, 256, .inl (x.ff))), (x.hc, .inr (1, [.ref x.hcy, .int (nI x.kc)])), (x.hcy, .inl (cB, 256, .inl (x.fc)))] : va_W) ++ pW cB cR ds := by unfold kW; rw [hk.dw, hdn, hgi, hk.md, hk.fs]; rfl
    by_cases q : σ.nd = 8
    · have hst : (sMake σ) = (σ, 0, -1) := by unfold sMake; rw [if_neg hndn, if_pos q]
      rw [hst]
      rw [q] at hW
      exact kPure (g_make_F l dC dI h0 (.ref x.hd) (.ref x.hb1) (.ref x.hf) (.ref x.hc) (.ref x.hmk) (.ref x.hwr) σ.stp x.hp (bI σ.go.isSome) x.wl) (by decide) ((List.Perm.of_eq hW).trans (km0 (X1 := [(h0, .inr (0, [.ref x.hd, .ref x.hb1, .ref x.hf, .ref x.hc, .ref x.hmk, .ref x.hwr, .ref x.hp, .int (nI 8), .int σ.stp])), (x.hp, .inr (4, [.int 0, .int (bI σ.go.isSome), .int x.wl]))]) (X2 := [(x.hd, .inl (cD, 8, .inr (.inr (.inr (.inr ((dsA ds))))))), (x.hmk, .inr (2, [.ref x.hba, .ref x.hta, x.vp, .int x.a0])), (x.hta, .inr (1, [.ref x.hty, .int (nI x.k)])), (x.hty, .inl (cB, 256, .inl (x.f))), (x.hba, .inr (1, [.ref x.hby, .int (nI x.kb)])), (x.hby, .inl (cB, 256, .inl (x.fb))), (x.hwr, .inr (3, [.ref x.hrw, .int (nI x.q)])), (x.hrw, .inl (cB, 512, .inl (x.g))), (x.hb1, .inr (1, [.ref x.hy, .int (nI x.ku)])), (x.hy, .inl (cB, 256, .inl (x.fu))), (x.hf, .inr (1, [.ref x.hfy, .int (nI x.kf)])), (x.hfy, .inl (cB, 256, .inl (x.ff))), (x.hc, .inr (1, [.ref x.hcy, .int (nI x.kc)])), (x.hcy, .inl (cB, 256, .inl (x.fc)))]) (pick [0, 1, 2, 3, 4, 5, 6, 7, 8, 9, 10, 11, 12, 13, 14, 15] 16 rfl rfl rfl))) [] rfl hk
    · have hnd : σ.nd < 8 := by have := hs.nd; omega
      cases hsp : spend σ 1 with
      | none =>
        obtain ⟨w9, hw9, hlt⟩ := spend_none hsp
        have hst : (sMake σ) = (off σ, 1, 0) := by unfold sMake; rw [if_neg hndn, if_neg q, hsp]
        rw [hst]
        refine kThr (x_make_X l hl9 dC dI sz h0 (.ref x.hd) (.ref x.hf) (.ref x.hc) (.ref x.hmk) (.ref x.hwr) σ.stp x.hp σ.go x.wl x.hb1 x.hy cB x.ku x.fu σ.buf w9 σ.nd hg hw9 hlt hk.bu.1 hk.bu.2 hnd) (by decide) ((List.Perm.of_eq hW).trans (km0 (X1 := [(h0, .inr (0, [.ref x.hd, .ref x.hb1, .ref x.hf, .ref x.hc, .ref x.hmk, .ref x.hwr, .ref x.hp, .int (nI σ.nd), .int σ.stp])), (x.hp, .inr (4, [.int 0, .int (bI σ.go.isSome), .int x.wl])), (x.hb1, .inr (1, [.ref x.hy, .int (nI x.ku)])), (x.hy, .inl (cB, 256, .inl (x.fu)))]) (X2 := [(x.hd, .inl (cD, 8, .inr (.inr (.inr (.inr ((dsA ds))))))), (x.hmk, .inr (2, [.ref x.hba, .ref x.hta, x.vp, .int x.a0])), (x.hta, .inr (1, [.ref x.hty, .int (nI x.k)])), (x.hty, .inl (cB, 256, .inl (x.f))), (x.hba, .inr (1, [.ref x.hby, .int (nI x.kb)])), (x.hby, .inl (cB, 256, .inl (x.fb))), (x.hwr, .inr (3, [.ref x.hrw, .int (nI x.q)])), (x.hrw, .inl (cB, 512, .inl (x.g))), (x.hf, .inr (1, [.ref x.hfy, .int (nI x.kf)])), (x.hfy, .inl (cB, 256, .inl (x.ff))), (x.hc, .inr (1, [.ref x.hcy, .int (nI x.kc)])), (x.hcy, .inl (cB, 256, .inl (x.fc)))]) (pick [0, 1, 10, 11, 2, 3, 4, 5, 6, 7, 8, 9, 12, 13, 14, 15] 16 rfl rfl rfl))) [0] rfl (fun E t hb fr => ?_)
        obtain ⟨hE, hat⟩ := hb
        exact ⟨⟨(show ¬ (1 : Int32) = 0 by decide), hE⟩, (x.hd, x.hb1, x.hy, x.hf, x.hfy, x.hc, x.hcy, x.hmk, x.hta, x.hty, x.hba, x.hby, x.hwr, x.hrw, x.hp, 1, (bI σ.go.isSome), x.wl, (nI σ.nd), σ.stp, x.a0, x.vp, x.k, x.kb, x.q, 0, x.kf, x.kc, x.f, x.fb, x.g, x.fu, x.ff, x.fc), ds, (kOk.mk rfl (fun h => by cases h) rfl rfl hk.ds hk.ok hk.kp ⟨tx_nil _, Nat.zero_le _⟩ hk.fe hk.mt hk.mb hk.cm), fr _ _ _ hat (kz ((List.Perm.of_eq (rfl : kW h0 cB cD cR (x.hd, x.hb1, x.hy, x.hf, x.hfy, x.hc, x.hcy, x.hmk, x.hta, x.hty, x.hba, x.hby, x.hwr, x.hrw, x.hp, 1, (bI σ.go.isSome), x.wl, (nI σ.nd), σ.stp, x.a0, x.vp, x.k, x.kb, x.q, 0, x.kf, x.kc, x.f, x.fb, x.g, x.fu, x.ff, x.fc) ds = ([(h0, .inr (0, [.ref x.hd, .ref x.hb1, .ref x.hf, .ref x.hc, .ref x.hmk, .ref x.hwr, .ref x.hp, .int (nI σ.nd), .int σ.stp])), (x.hp, .inr (4, [.int 1, .int (bI σ.go.isSome), .int x.wl])), (x.hd, .inl (cD, 8, .inr (.inr (.inr (.inr ((dsA ds))))))), (x.hmk, .inr (2, [.ref x.hba, .ref x.hta, x.vp, .int x.a0])), (x.hta, .inr (1, [.ref x.hty, .int (nI x.k)])), (x.hty, .inl (cB, 256, .inl (x.f))), (x.hba, .inr (1, [.ref x.hby, .int (nI x.kb)])), (x.hby, .inl (cB, 256, .inl (x.fb))), (x.hwr, .inr (3, [.ref x.hrw, .int (nI x.q)])), (x.hrw, .inl (cB, 512, .inl (x.g))), (x.hb1, .inr (1, [.ref x.hy, .int (nI 0)])), (x.hy, .inl (cB, 256, .inl (x.fu))), (x.hf, .inr (1, [.ref x.hfy, .int (nI x.kf)])), (x.hfy, .inl (cB, 256, .inl (x.ff))), (x.hc, .inr (1, [.ref x.hcy, .int (nI x.kc)])), (x.hcy, .inl (cB, 256, .inl (x.fc)))] : va_W) ++ pW cB cR ds)).trans (km0 (X1 := [(h0, .inr (0, [.ref x.hd, .ref x.hb1, .ref x.hf, .ref x.hc, .ref x.hmk, .ref x.hwr, .ref x.hp, .int (nI σ.nd), .int σ.stp])), (x.hp, .inr (4, [.int 1, .int (bI σ.go.isSome), .int x.wl])), (x.hb1, .inr (1, [.ref x.hy, .int (nI 0)])), (x.hy, .inl (cB, 256, .inl (x.fu)))]) (X2 := [(x.hd, .inl (cD, 8, .inr (.inr (.inr (.inr ((dsA ds))))))), (x.hmk, .inr (2, [.ref x.hba, .ref x.hta, x.vp, .int x.a0])), (x.hta, .inr (1, [.ref x.hty, .int (nI x.k)])), (x.hty, .inl (cB, 256, .inl (x.f))), (x.hba, .inr (1, [.ref x.hby, .int (nI x.kb)])), (x.hby, .inl (cB, 256, .inl (x.fb))), (x.hwr, .inr (3, [.ref x.hrw, .int (nI x.q)])), (x.hrw, .inl (cB, 512, .inl (x.g))), (x.hf, .inr (1, [.ref x.hfy, .int (nI x.kf)])), (x.hfy, .inl (cB, 256, .inl (x.ff))), (x.hc, .inr (1, [.ref x.hcy, .int (nI x.kc)])), (x.hcy, .inl (cB, 256, .inl (x.fc)))]) (pick [0, 1, 10, 11, 2, 3, 4, 5, 6, 7, 8, 9, 12, 13, 14, 15] 16 rfl rfl rfl))))⟩
      | some τ =>
        obtain ⟨rfl, hle⟩ := spend_some hsp
        have hst : (sMake σ) = (sgN (sgG σ (σ.go.map (· - 1))) (σ.nd + 1) (va_up σ.ds σ.nd (some ⟨0, 0, fun _ => none⟩)), 0, nI σ.nd) := by unfold sMake; rw [if_neg hndn, if_neg q, hsp]
        rw [hst]
        refine kRet (g_make_T l dC dI sz h0 (.ref x.hb1) (.ref x.hf) (.ref x.hc) (.ref x.hmk) (.ref x.hwr) σ.stp x.hp σ.go x.wl x.hd cD (dsA ds) σ.nd hg hle hnd) (by decide) ((List.Perm.of_eq hW).trans (km0 (X1 := [(h0, .inr (0, [.ref x.hd, .ref x.hb1, .ref x.hf, .ref x.hc, .ref x.hmk, .ref x.hwr, .ref x.hp, .int (nI σ.nd), .int σ.stp])), (x.hp, .inr (4, [.int 0, .int (bI σ.go.isSome), .int x.wl])), (x.hd, .inl (cD, 8, .inr (.inr (.inr (.inr ((dsA ds)))))))]) (X2 := [(x.hmk, .inr (2, [.ref x.hba, .ref x.hta, x.vp, .int x.a0])), (x.hta, .inr (1, [.ref x.hty, .int (nI x.k)])), (x.hty, .inl (cB, 256, .inl (x.f))), (x.hba, .inr (1, [.ref x.hby, .int (nI x.kb)])), (x.hby, .inl (cB, 256, .inl (x.fb))), (x.hwr, .inr (3, [.ref x.hrw, .int (nI x.q)])), (x.hrw, .inl (cB, 512, .inl (x.g))), (x.hb1, .inr (1, [.ref x.hy, .int (nI x.ku)])), (x.hy, .inl (cB, 256, .inl (x.fu))), (x.hf, .inr (1, [.ref x.hfy, .int (nI x.kf)])), (x.hfy, .inl (cB, 256, .inl (x.ff))), (x.hc, .inr (1, [.ref x.hcy, .int (nI x.kc)])), (x.hcy, .inl (cB, 256, .inl (x.fc)))]) (pick [0, 1, 2, 3, 4, 5, 6, 7, 8, 9, 10, 11, 12, 13, 14, 15] 16 rfl rfl rfl))) [1] rfl (fun r h => ⟨rfl, h⟩) (fun t hb fr => ?_)
        obtain ⟨wl2, hdo, hra, cR2, hwl, hat⟩ := hb
        have hKt := (fr [] [] [] ⟨fun k q h => by simp at h, (hat.2.1.sub [] rfl), ⟨fun i j p q h => by simp at h, fun k q h => by simp at h⟩⟩ ⟨_, List.Perm.refl _⟩).2.1
        obtain rfl : cR = cR2 := (kone hat.2.1 hKt).symm
        exact ⟨(x.hd, x.hb1, x.hy, x.hf, x.hfy, x.hc, x.hcy, x.hmk, x.hta, x.hty, x.hba, x.hby, x.hwr, x.hrw, x.hp, 0, (bI σ.go.isSome), wl2, (nI (σ.nd + 1)), σ.stp, x.a0, x.vp, x.k, x.kb, x.q, x.ku, x.kf, x.kc, x.f, x.fb, x.g, x.fu, x.ff, x.fc), (va_up ds σ.nd (some (hdo, hra, 0, 0, fun _ => none))), (kOk.mk hd0 (fun _ => kgo hwl) rfl rfl (by rw [dsM_up, ← hk.ds]; rfl) (kok_up hk.ok ⟨Nat.zero_le _, fun j r h => by cases h⟩) (kpt_up hk.kp (fun j _ h => absurd h (Nat.not_lt_zero j))) hk.bu hk.fe hk.mt hk.mb hk.cm), fr _ _ _ hat (kz ((List.Perm.of_eq (show kW h0 cB cD cR (x.hd, x.hb1, x.hy, x.hf, x.hfy, x.hc, x.hcy, x.hmk, x.hta, x.hty, x.hba, x.hby, x.hwr, x.hrw, x.hp, 0, (bI σ.go.isSome), wl2, (nI (σ.nd + 1)), σ.stp, x.a0, x.vp, x.k, x.kb, x.q, x.ku, x.kf, x.kc, x.f, x.fb, x.g, x.fu, x.ff, x.fc) (va_up ds σ.nd (some (hdo, hra, 0, 0, fun _ => none))) = ([(h0, .inr (0, [.ref x.hd, .ref x.hb1, .ref x.hf, .ref x.hc, .ref x.hmk, .ref x.hwr, .ref x.hp, .int (nI (σ.nd + 1)), .int σ.stp])), (x.hp, .inr (4, [.int 0, .int (bI σ.go.isSome), .int wl2])), (x.hd, .inl (cD, 8, .inr (.inr (.inr (.inr ((va_up (dsA ds) σ.nd (some hdo)))))))), (x.hmk, .inr (2, [.ref x.hba, .ref x.hta, x.vp, .int x.a0])), (x.hta, .inr (1, [.ref x.hty, .int (nI x.k)])), (x.hty, .inl (cB, 256, .inl (x.f))), (x.hba, .inr (1, [.ref x.hby, .int (nI x.kb)])), (x.hby, .inl (cB, 256, .inl (x.fb))), (x.hwr, .inr (3, [.ref x.hrw, .int (nI x.q)])), (x.hrw, .inl (cB, 512, .inl (x.g))), (x.hb1, .inr (1, [.ref x.hy, .int (nI x.ku)])), (x.hy, .inl (cB, 256, .inl (x.fu))), (x.hf, .inr (1, [.ref x.hfy, .int (nI x.kf)])), (x.hfy, .inl (cB, 256, .inl (x.ff))), (x.hc, .inr (1, [.ref x.hcy, .int (nI x.kc)])), (x.hcy, .inl (cB, 256, .inl (x.fc)))] : va_W) ++ pW cB cR (va_up ds σ.nd (some (hdo, hra, 0, 0, fun _ => none))) by unfold kW; rw [dsA_up]; rfl)).trans (km (X1 := [(h0, .inr (0, [.ref x.hd, .ref x.hb1, .ref x.hf, .ref x.hc, .ref x.hmk, .ref x.hwr, .ref x.hp, .int (nI (σ.nd + 1)), .int σ.stp])), (x.hp, .inr (4, [.int 0, .int (bI σ.go.isSome), .int wl2])), (x.hd, .inl (cD, 8, .inr (.inr (.inr (.inr ((va_up (dsA ds) σ.nd (some hdo))))))))]) (X2 := [(x.hmk, .inr (2, [.ref x.hba, .ref x.hta, x.vp, .int x.a0])), (x.hta, .inr (1, [.ref x.hty, .int (nI x.k)])), (x.hty, .inl (cB, 256, .inl (x.f))), (x.hba, .inr (1, [.ref x.hby, .int (nI x.kb)])), (x.hby, .inl (cB, 256, .inl (x.fb))), (x.hwr, .inr (3, [.ref x.hrw, .int (nI x.q)])), (x.hrw, .inl (cB, 512, .inl (x.g))), (x.hb1, .inr (1, [.ref x.hy, .int (nI x.ku)])), (x.hy, .inl (cB, 256, .inl (x.fu))), (x.hf, .inr (1, [.ref x.hfy, .int (nI x.kf)])), (x.hfy, .inl (cB, 256, .inl (x.ff))), (x.hc, .inr (1, [.ref x.hcy, .int (nI x.kc)])), (x.hcy, .inl (cB, 256, .inl (x.fc)))]) (pick [0, 1, 2, 3, 4, 5, 6, 7, 8, 9, 10, 11, 12, 13, 14, 15] 16 rfl rfl rfl) (kadd hnd (knd hs hk)))))⟩
set_option maxHeartbeats 4000000 in
set_option maxRecDepth 100000 in
theorem k_trim (l : Launch) (hl9 : l.stackTraces = false) (dC : Nat → ClassId) (dI : Nat → Nat → Nat) (sz : Nat) (h0 : Nat) (cB cD cR : ClassId) (x : KX) (ds : Nat → Option Dc) (σ : Sg) (a1 : Int32) (a2 : Int32) (hs : sOk σ) (hk : kOk σ x ds) : kMet l y_K_trim k_K_trim ex1 (dC, dI) sz h0 cB cD cR x ds [.ref h0, .int a1, .int a2] (sTrim σ a1 a2) := by
  cases hdn : σ.down with
  | true =>
    have hW : kW h0 cB cD cR x ds = ([(h0, .inr (0, [.ref x.hd, .ref x.hb1, .ref x.hf, .ref x.hc, .ref x.hmk, .ref x.hwr, .ref x.hp, .int x.md, .int x.fs])), (x.hp, .inr (4, [.int 1, .int x.gi, .int x.wl])), (x.hd, .inl (cD, 8, .inr (.inr (.inr (.inr ((dsA ds))))))), (x.hmk, .inr (2, [.ref x.hba, .ref x.hta, x.vp, .int x.a0])), (x.hta, .inr (1, [.ref x.hty, .int (nI x.k)])), (x.hty, .inl (cB, 256, .inl (x.f))), (x.hba, .inr (1, [.ref x.hby, .int (nI x.kb)])), (x.hby, .inl (cB, 256, .inl (x.fb))), (x.hwr, .inr (3, [.ref x.hrw, .int (nI x.q)])), (x.hrw, .inl (cB, 512, .inl (x.g))), (x.hb1, .inr (1, [.ref x.hy, .int (nI x.ku)])), (x.hy, .inl (cB, 256, .inl (x.fu))), (x.hf, .inr (1, [.ref x.hfy, .int (nI x.kf)])), (x.hfy, .inl (cB, 256, .inl (x.ff))), (x.hc, .inr (1, [.ref x.hcy, .int (nI x.kc)])), (x.hcy, .inl (cB, 256, .inl (x.fc)))] : va_W) ++ pW cB cR ds := by unfold kW; rw [hk.dw, hdn]; rfl
    have hst : (sTrim σ a1 a2) = (σ, 1, 0) := by unfold sTrim; rw [if_pos hdn]
    rw [hst]
    exact kDown (x_trim_D l hl9 dC dI sz h0 (.ref x.hd) (.ref x.hb1) (.ref x.hf) (.ref x.hc) (.ref x.hmk) (.ref x.hwr) x.md x.fs x.hp x.gi x.wl a1 a2) (by decide) ((List.Perm.of_eq hW).trans (km0 (X1 := [(h0, .inr (0, [.ref x.hd, .ref x.hb1, .ref x.hf, .ref x.hc, .ref x.hmk, .ref x.hwr, .ref x.hp, .int x.md, .int x.fs])), (x.hp, .inr (4, [.int 1, .int x.gi, .int x.wl]))]) (X2 := [(x.hd, .inl (cD, 8, .inr (.inr (.inr (.inr ((dsA ds))))))), (x.hmk, .inr (2, [.ref x.hba, .ref x.hta, x.vp, .int x.a0])), (x.hta, .inr (1, [.ref x.hty, .int (nI x.k)])), (x.hty, .inl (cB, 256, .inl (x.f))), (x.hba, .inr (1, [.ref x.hby, .int (nI x.kb)])), (x.hby, .inl (cB, 256, .inl (x.fb))), (x.hwr, .inr (3, [.ref x.hrw, .int (nI x.q)])), (x.hrw, .inl (cB, 512, .inl (x.g))), (x.hb1, .inr (1, [.ref x.hy, .int (nI x.ku)])), (x.hy, .inl (cB, 256, .inl (x.fu))), (x.hf, .inr (1, [.ref x.hfy, .int (nI x.kf)])), (x.hfy, .inl (cB, 256, .inl (x.ff))), (x.hc, .inr (1, [.ref x.hcy, .int (nI x.kc)])), (x.hcy, .inl (cB, 256, .inl (x.fc)))]) (pick [0, 1, 2, 3, 4, 5, 6, 7, 8, 9, 10, 11, 12, 13, 14, 15] 16 rfl rfl rfl))) [] rfl hk (by decide) rfl
  | false =>
    obtain ⟨hgi, hgw⟩ := hk.gi hdn
    have hg : ∀ w, σ.go = some w → x.wl = nI w ∧ w < 2 ^ 31 := fun w h => ⟨hgw w h, hs.go w h⟩
    have hd0 : (0 : Int32) = bI σ.down := by rw [hdn]; rfl
    have hndn : ¬ σ.down = true := by rw [hdn]; decide
    have hW : kW h0 cB cD cR x ds = ([(h0, .inr (0, [.ref x.hd, .ref x.hb1, .ref x.hf, .ref x.hc, .ref x.hmk, .ref x.hwr, .ref x.hp, .int (nI σ.nd), .int σ.stp])), (x.hp, .inr (4, [.int 0, .int (bI σ.go.isSome), .int x.wl])), (x.hd, .inl (cD, 8, .inr (.inr (.inr (.inr ((dsA ds))))))), (x.hmk, .inr (2, [.ref x.hba, .ref x.hta, x.vp, .int x.a0])), (x.hta, .inr (1, [.ref x.hty, .int (nI x.k)])), (x.hty, .inl (cB, 256, .inl (x.f))), (x.hba, .inr (1, [.ref x.hby, .int (nI x.kb)])), (x.hby, .inl (cB, 256, .inl (x.fb))), (x.hwr, .inr (3, [.ref x.hrw, .int (nI x.q)])), (x.hrw, .inl (cB, 512, .inl (x.g))), (x.hb1, .inr (1, [.ref x.hy, .int (nI x.ku)])), (x.hy, .inl (cB, 256, .inl (x.fu))), (x.hf, .inr (1, [.ref x.hfy, .int (nI x.kf)])), (x.hfy, .inl (cB, 256, .inl (x.ff))), (x.hc, .inr (1, [.ref x.hcy, .int (nI x.kc)])), (x.hcy, .inl (cB, 256, .inl (x.fc)))] : va_W) ++ pW cB cR ds := by unfold kW; rw [hk.dw, hdn, hgi, hk.md, hk.fs]; rfl
    cases hd : dGet σ.ds a1 with
    | none =>
      have hdN := kdocN hk hd
      have hst : (sTrim σ a1 a2) = (σ, 0, 0) := by unfold sTrim; rw [if_neg hndn, hd]
      rw [hst]
      exact kPure (g_trim_N l dC dI h0 (.ref x.hb1) (.ref x.hf) (.ref x.hc) (.ref x.hmk) (.ref x.hwr) (nI σ.nd) σ.stp x.hp (bI σ.go.isSome) x.wl x.hd cD (dsA ds) a1 a2 hdN) (by decide) ((List.Perm.of_eq hW).trans (km0 (X1 := [(h0, .inr (0, [.ref x.hd, .ref x.hb1, .ref x.hf, .ref x.hc, .ref x.hmk, .ref x.hwr, .ref x.hp, .int (nI σ.nd), .int σ.stp])), (x.hp, .inr (4, [.int 0, .int (bI σ.go.isSome), .int x.wl])), (x.hd, .inl (cD, 8, .inr (.inr (.inr (.inr ((dsA ds)))))))]) (X2 := [(x.hmk, .inr (2, [.ref x.hba, .ref x.hta, x.vp, .int x.a0])), (x.hta, .inr (1, [.ref x.hty, .int (nI x.k)])), (x.hty, .inl (cB, 256, .inl (x.f))), (x.hba, .inr (1, [.ref x.hby, .int (nI x.kb)])), (x.hby, .inl (cB, 256, .inl (x.fb))), (x.hwr, .inr (3, [.ref x.hrw, .int (nI x.q)])), (x.hrw, .inl (cB, 512, .inl (x.g))), (x.hb1, .inr (1, [.ref x.hy, .int (nI x.ku)])), (x.hy, .inl (cB, 256, .inl (x.fu))), (x.hf, .inr (1, [.ref x.hfy, .int (nI x.kf)])), (x.hfy, .inl (cB, 256, .inl (x.ff))), (x.hc, .inr (1, [.ref x.hcy, .int (nI x.kc)])), (x.hcy, .inl (cB, 256, .inl (x.fc)))]) (pick [0, 1, 2, 3, 4, 5, 6, 7, 8, 9, 10, 11, 12, 13, 14, 15] 16 rfl rfl rfl))) [1] rfl hk
    | some p =>
      obtain ⟨i, dm⟩ := p
      obtain ⟨d, hi8, rfl, hdi, rfl, hdS, hc64, hok, hkp, hdm⟩ := kdocS hs hk hd
      have hfd : d.first ≤ d.count := hdm.1
      by_cases hna : a2 < nI d.first ∨ nI d.count ≤ a2
      · have hst : (sTrim σ (nI i) a2) = (σ, 0, 0) := by unfold sTrim; rw [if_neg hndn, hd]; exact if_pos hna
        rw [hst]
        exact kPure (g_trim_A l dC dI h0 (.ref x.hb1) (.ref x.hf) (.ref x.hc) (.ref x.hmk) (.ref x.hwr) (nI σ.nd) σ.stp x.hp (bI σ.go.isSome) x.wl x.hd cD (dsA ds) d.a d.ra cR d.first d.count (rvA d.rv) (nI i) a2 hdS hc64 hna) (by decide) ((List.Perm.of_eq hW).trans (km (X1 := [(h0, .inr (0, [.ref x.hd, .ref x.hb1, .ref x.hf, .ref x.hc, .ref x.hmk, .ref x.hwr, .ref x.hp, .int (nI σ.nd), .int σ.stp])), (x.hp, .inr (4, [.int 0, .int (bI σ.go.isSome), .int x.wl])), (x.hd, .inl (cD, 8, .inr (.inr (.inr (.inr ((dsA ds)))))))]) (X2 := [(x.hmk, .inr (2, [.ref x.hba, .ref x.hta, x.vp, .int x.a0])), (x.hta, .inr (1, [.ref x.hty, .int (nI x.k)])), (x.hty, .inl (cB, 256, .inl (x.f))), (x.hba, .inr (1, [.ref x.hby, .int (nI x.kb)])), (x.hby, .inl (cB, 256, .inl (x.fb))), (x.hwr, .inr (3, [.ref x.hrw, .int (nI x.q)])), (x.hrw, .inl (cB, 512, .inl (x.g))), (x.hb1, .inr (1, [.ref x.hy, .int (nI x.ku)])), (x.hy, .inl (cB, 256, .inl (x.fu))), (x.hf, .inr (1, [.ref x.hfy, .int (nI x.kf)])), (x.hfy, .inl (cB, 256, .inl (x.ff))), (x.hc, .inr (1, [.ref x.hcy, .int (nI x.kc)])), (x.hcy, .inl (cB, 256, .inl (x.fc)))]) (pick [0, 1, 2, 3, 4, 5, 6, 7, 8, 9, 10, 11, 12, 13, 14, 15] 16 rfl rfl rfl) (pW_take hi8 hdi))) [1, 2] rfl hk
      · obtain ⟨r9, rfl, ha1, ha2, hc9⟩ := kask hfd hc64 hna
        cases hsp : spend σ 1 with
        | none =>
          obtain ⟨w9, hw9, hlt⟩ := spend_none hsp
          have hst : (sTrim σ (nI i) (nI r9)) = (off σ, 1, 0) := by unfold sTrim; rw [if_neg hndn, hd]; refine (if_neg hna).trans ?_; rw [hsp]
          rw [hst]
          refine kThr (x_trim_X l hl9 dC dI sz h0 (.ref x.hf) (.ref x.hc) (.ref x.hmk) (.ref x.hwr) (nI σ.nd) σ.stp x.hp σ.go x.wl x.hb1 x.hy cB x.ku x.fu σ.buf w9 x.hd cD (dsA ds) d.a d.ra cR d.first d.count (rvA d.rv) (nI i) r9 hg hw9 hlt hk.bu.1 hk.bu.2 hdS hc64 ha1 ha2) (by decide) ((List.Perm.of_eq hW).trans (km (X1 := [(h0, .inr (0, [.ref x.hd, .ref x.hb1, .ref x.hf, .ref x.hc, .ref x.hmk, .ref x.hwr, .ref x.hp, .int (nI σ.nd), .int σ.stp])), (x.hp, .inr (4, [.int 0, .int (bI σ.go.isSome), .int x.wl])), (x.hd, .inl (cD, 8, .inr (.inr (.inr (.inr ((dsA ds))))))), (x.hb1, .inr (1, [.ref x.hy, .int (nI x.ku)])), (x.hy, .inl (cB, 256, .inl (x.fu)))]) (X2 := [(x.hmk, .inr (2, [.ref x.hba, .ref x.hta, x.vp, .int x.a0])), (x.hta, .inr (1, [.ref x.hty, .int (nI x.k)])), (x.hty, .inl (cB, 256, .inl (x.f))), (x.hba, .inr (1, [.ref x.hby, .int (nI x.kb)])), (x.hby, .inl (cB, 256, .inl (x.fb))), (x.hwr, .inr (3, [.ref x.hrw, .int (nI x.q)])), (x.hrw, .inl (cB, 512, .inl (x.g))), (x.hf, .inr (1, [.ref x.hfy, .int (nI x.kf)])), (x.hfy, .inl (cB, 256, .inl (x.ff))), (x.hc, .inr (1, [.ref x.hcy, .int (nI x.kc)])), (x.hcy, .inl (cB, 256, .inl (x.fc)))]) (pick [0, 1, 2, 10, 11, 3, 4, 5, 6, 7, 8, 9, 12, 13, 14, 15] 16 rfl rfl rfl) (pW_take hi8 hdi))) [1, 2, 0] rfl (fun E t hb fr => ?_)
          obtain ⟨hE, hat⟩ := hb
          exact ⟨⟨(show ¬ (1 : Int32) = 0 by decide), hE⟩, (x.hd, x.hb1, x.hy, x.hf, x.hfy, x.hc, x.hcy, x.hmk, x.hta, x.hty, x.hba, x.hby, x.hwr, x.hrw, x.hp, 1, (bI σ.go.isSome), x.wl, (nI σ.nd), σ.stp, x.a0, x.vp, x.k, x.kb, x.q, 0, x.kf, x.kc, x.f, x.fb, x.g, x.fu, x.ff, x.fc), ds, (kOk.mk rfl (fun h => by cases h) rfl rfl hk.ds hk.ok hk.kp ⟨tx_nil _, Nat.zero_le _⟩ hk.fe hk.mt hk.mb hk.cm), fr _ _ _ hat (kz ((List.Perm.of_eq (rfl : kW h0 cB cD cR (x.hd, x.hb1, x.hy, x.hf, x.hfy, x.hc, x.hcy, x.hmk, x.hta, x.hty, x.hba, x.hby, x.hwr, x.hrw, x.hp, 1, (bI σ.go.isSome), x.wl, (nI σ.nd), σ.stp, x.a0, x.vp, x.k, x.kb, x.q, 0, x.kf, x.kc, x.f, x.fb, x.g, x.fu, x.ff, x.fc) ds = ([(h0, .inr (0, [.ref x.hd, .ref x.hb1, .ref x.hf, .ref x.hc, .ref x.hmk, .ref x.hwr, .ref x.hp, .int (nI σ.nd), .int σ.stp])), (x.hp, .inr (4, [.int 1, .int (bI σ.go.isSome), .int x.wl])), (x.hd, .inl (cD, 8, .inr (.inr (.inr (.inr ((dsA ds))))))), (x.hmk, .inr (2, [.ref x.hba, .ref x.hta, x.vp, .int x.a0])), (x.hta, .inr (1, [.ref x.hty, .int (nI x.k)])), (x.hty, .inl (cB, 256, .inl (x.f))), (x.hba, .inr (1, [.ref x.hby, .int (nI x.kb)])), (x.hby, .inl (cB, 256, .inl (x.fb))), (x.hwr, .inr (3, [.ref x.hrw, .int (nI x.q)])), (x.hrw, .inl (cB, 512, .inl (x.g))), (x.hb1, .inr (1, [.ref x.hy, .int (nI 0)])), (x.hy, .inl (cB, 256, .inl (x.fu))), (x.hf, .inr (1, [.ref x.hfy, .int (nI x.kf)])), (x.hfy, .inl (cB, 256, .inl (x.ff))), (x.hc, .inr (1, [.ref x.hcy, .int (nI x.kc)])), (x.hcy, .inl (cB, 256, .inl (x.fc)))] : va_W) ++ pW cB cR ds)).trans (km (X1 := [(h0, .inr (0, [.ref x.hd, .ref x.hb1, .ref x.hf, .ref x.hc, .ref x.hmk, .ref x.hwr, .ref x.hp, .int (nI σ.nd), .int σ.stp])), (x.hp, .inr (4, [.int 1, .int (bI σ.go.isSome), .int x.wl])), (x.hd, .inl (cD, 8, .inr (.inr (.inr (.inr ((dsA ds))))))), (x.hb1, .inr (1, [.ref x.hy, .int (nI 0)])), (x.hy, .inl (cB, 256, .inl (x.fu)))]) (X2 := [(x.hmk, .inr (2, [.ref x.hba, .ref x.hta, x.vp, .int x.a0])), (x.hta, .inr (1, [.ref x.hty, .int (nI x.k)])), (x.hty, .inl (cB, 256, .inl (x.f))), (x.hba, .inr (1, [.ref x.hby, .int (nI x.kb)])), (x.hby, .inl (cB, 256, .inl (x.fb))), (x.hwr, .inr (3, [.ref x.hrw, .int (nI x.q)])), (x.hrw, .inl (cB, 512, .inl (x.g))), (x.hf, .inr (1, [.ref x.hfy, .int (nI x.kf)])), (x.hfy, .inl (cB, 256, .inl (x.ff))), (x.hc, .inr (1, [.ref x.hcy, .int (nI x.kc)])), (x.hcy, .inl (cB, 256, .inl (x.fc)))]) (pick [0, 1, 2, 10, 11, 3, 4, 5, 6, 7, 8, 9, 12, 13, 14, 15] 16 rfl rfl rfl) (pW_take hi8 hdi))))⟩
        | some τ =>
          obtain ⟨rfl, hle⟩ := spend_some hsp
          have hst : (sTrim σ (nI i) (nI r9)) = (sgD (sgG σ (σ.go.map (· - 1))) (va_up σ.ds i (some ⟨r9, d.count, cutA r9 (dcM d).rv 0⟩)), 0, 1) := by unfold sTrim; rw [if_neg hndn, hd]; refine (if_neg hna).trans ?_; rw [hsp, hc9]; rfl
          rw [hst]
          refine kRet (g_trim_T l dC dI sz h0 (.ref x.hb1) (.ref x.hf) (.ref x.hc) (.ref x.hmk) (.ref x.hwr) (nI σ.nd) σ.stp x.hp σ.go x.wl x.hd cD (dsA ds) d.a d.ra cR d.first d.count (rvA d.rv) (nI i) r9 hg hle hdS hc64 ha1 ha2) (by decide) ((List.Perm.of_eq hW).trans (km (X1 := [(h0, .inr (0, [.ref x.hd, .ref x.hb1, .ref x.hf, .ref x.hc, .ref x.hmk, .ref x.hwr, .ref x.hp, .int (nI σ.nd), .int σ.stp])), (x.hp, .inr (4, [.int 0, .int (bI σ.go.isSome), .int x.wl])), (x.hd, .inl (cD, 8, .inr (.inr (.inr (.inr ((dsA ds)))))))]) (X2 := [(x.hmk, .inr (2, [.ref x.hba, .ref x.hta, x.vp, .int x.a0])), (x.hta, .inr (1, [.ref x.hty, .int (nI x.k)])), (x.hty, .inl (cB, 256, .inl (x.f))), (x.hba, .inr (1, [.ref x.hby, .int (nI x.kb)])), (x.hby, .inl (cB, 256, .inl (x.fb))), (x.hwr, .inr (3, [.ref x.hrw, .int (nI x.q)])), (x.hrw, .inl (cB, 512, .inl (x.g))), (x.hb1, .inr (1, [.ref x.hy, .int (nI x.ku)])), (x.hy, .inl (cB, 256, .inl (x.fu))), (x.hf, .inr (1, [.ref x.hfy, .int (nI x.kf)])), (x.hfy, .inl (cB, 256, .inl (x.ff))), (x.hc, .inr (1, [.ref x.hcy, .int (nI x.kc)])), (x.hcy, .inl (cB, 256, .inl (x.fc)))]) (pick [0, 1, 2, 3, 4, 5, 6, 7, 8, 9, 10, 11, 12, 13, 14, 15] 16 rfl rfl rfl) (pW_take hi8 hdi))) [1, 2] rfl (fun r h => ⟨rfl, h⟩) (fun t hb fr => ?_)
          obtain ⟨wl2, hwl, hat⟩ := hb
          rw [← rvA_cut] at hat
          exact ⟨(x.hd, x.hb1, x.hy, x.hf, x.hfy, x.hc, x.hcy, x.hmk, x.hta, x.hty, x.hba, x.hby, x.hwr, x.hrw, x.hp, 0, (bI σ.go.isSome), wl2, (nI σ.nd), σ.stp, x.a0, x.vp, x.k, x.kb, x.q, x.ku, x.kf, x.kc, x.f, x.fb, x.g, x.fu, x.ff, x.fc), (va_up ds i (some (d.a, d.ra, r9, d.count, cutA r9 d.rv 0))), (kOk.mk hd0 (fun _ => kgo hwl) rfl rfl (kds hk.ds (dcM_cut d r9)) (kok_up hk.ok ⟨hc64, rvOk_cut hok⟩) (kpt_up hk.kp (kpt_cut ha1 hkp)) hk.bu hk.fe hk.mt hk.mb hk.cm), fr _ _ _ hat (kzc (d2 := (d.a, d.ra, r9, d.count, cutA r9 d.rv 0)) hi8 (rvW_cut cB d.rv r9 0) (fun P hP => (List.Perm.of_eq (show kW h0 cB cD cR (x.hd, x.hb1, x.hy, x.hf, x.hfy, x.hc, x.hcy, x.hmk, x.hta, x.hty, x.hba, x.hby, x.hwr, x.hrw, x.hp, 0, (bI σ.go.isSome), wl2, (nI σ.nd), σ.stp, x.a0, x.vp, x.k, x.kb, x.q, x.ku, x.kf, x.kc, x.f, x.fb, x.g, x.fu, x.ff, x.fc) (va_up ds i (some (d.a, d.ra, r9, d.count, cutA r9 d.rv 0))) = ([(h0, .inr (0, [.ref x.hd, .ref x.hb1, .ref x.hf, .ref x.hc, .ref x.hmk, .ref x.hwr, .ref x.hp, .int (nI σ.nd), .int σ.stp])), (x.hp, .inr (4, [.int 0, .int (bI σ.go.isSome), .int wl2])), (x.hd, .inl (cD, 8, .inr (.inr (.inr (.inr ((dsA ds))))))), (x.hmk, .inr (2, [.ref x.hba, .ref x.hta, x.vp, .int x.a0])), (x.hta, .inr (1, [.ref x.hty, .int (nI x.k)])), (x.hty, .inl (cB, 256, .inl (x.f))), (x.hba, .inr (1, [.ref x.hby, .int (nI x.kb)])), (x.hby, .inl (cB, 256, .inl (x.fb))), (x.hwr, .inr (3, [.ref x.hrw, .int (nI x.q)])), (x.hrw, .inl (cB, 512, .inl (x.g))), (x.hb1, .inr (1, [.ref x.hy, .int (nI x.ku)])), (x.hy, .inl (cB, 256, .inl (x.fu))), (x.hf, .inr (1, [.ref x.hfy, .int (nI x.kf)])), (x.hfy, .inl (cB, 256, .inl (x.ff))), (x.hc, .inr (1, [.ref x.hcy, .int (nI x.kc)])), (x.hcy, .inl (cB, 256, .inl (x.fc)))] : va_W) ++ pW cB cR (va_up ds i (some (d.a, d.ra, r9, d.count, cutA r9 d.rv 0))) by unfold kW; rw [dsA_keep (d2 := (d.a, d.ra, r9, d.count, cutA r9 d.rv 0)) hdi rfl]; first | done | rfl)).trans (km (X1 := [(h0, .inr (0, [.ref x.hd, .ref x.hb1, .ref x.hf, .ref x.hc, .ref x.hmk, .ref x.hwr, .ref x.hp, .int (nI σ.nd), .int σ.stp])), (x.hp, .inr (4, [.int 0, .int (bI σ.go.isSome), .int wl2])), (x.hd, .inl (cD, 8, .inr (.inr (.inr (.inr ((dsA ds)))))))]) (X2 := [(x.hmk, .inr (2, [.ref x.hba, .ref x.hta, x.vp, .int x.a0])), (x.hta, .inr (1, [.ref x.hty, .int (nI x.k)])), (x.hty, .inl (cB, 256, .inl (x.f))), (x.hba, .inr (1, [.ref x.hby, .int (nI x.kb)])), (x.hby, .inl (cB, 256, .inl (x.fb))), (x.hwr, .inr (3, [.ref x.hrw, .int (nI x.q)])), (x.hrw, .inl (cB, 512, .inl (x.g))), (x.hb1, .inr (1, [.ref x.hy, .int (nI x.ku)])), (x.hy, .inl (cB, 256, .inl (x.fu))), (x.hf, .inr (1, [.ref x.hfy, .int (nI x.kf)])), (x.hfy, .inl (cB, 256, .inl (x.ff))), (x.hc, .inr (1, [.ref x.hcy, .int (nI x.kc)])), (x.hcy, .inl (cB, 256, .inl (x.fc)))]) (pick [0, 1, 2, 3, 4, 5, 6, 7, 8, 9, 10, 11, 12, 13, 14, 15] 16 rfl rfl rfl) hP)))⟩
end
section
set_option maxHeartbeats 4000000 in
set_option maxRecDepth 100000 in
theorem k_dropDocument (l : Launch) (hl9 : l.stackTraces = false) (dC : Nat → ClassId) (dI : Nat → Nat → Nat) (sz : Nat) (h0 : Nat) (cB cD cR : ClassId) (x : KX) (ds : Nat → Option Dc) (σ : Sg) (a1 : Int32) (hs : sOk σ) (hk : kOk σ x ds) : kMet l y_K_dropDocument k_K_dropDocument ex1 (dC, dI) sz h0 cB cD cR x ds [.ref h0, .int a1] (sDrop σ a1) := by
  cases hdn : σ.down with
  | true =>
    have hW : kW h0 cB cD cR x ds = ([(h0, .inr (0, [.ref x.hd, .ref x.hb1, .ref x.hf, .ref x.hc, .ref x.hmk, .ref x.hwr, .ref x.hp, .int x.md, .int x.fs])), (x.hp, .inr (4, [.int 1, .int x.gi, .int x.wl])), (x.hd, .inl (cD, 8, .inr (.inr (.inr (.inr ((dsA ds))))))), (x.hmk, .inr (2, [.ref x.hba, .ref x.hta, x.vp, .int x.a0])), (x.hta, .inr (1, [.ref x.hty, .int (nI x.k)])), (x.hty, .inl (cB, 256, .inl (x.f))), (x.hba, .inr (1, [.ref x.hby, .int (nI x.kb)])), (x.hby, .inl (cB, 256, .inl (x.fb))), (x.hwr, .inr (3, [.ref x.hrw, .int (nI x.q)])), (x.hrw, .inl (cB, 512, .inl (x.g))), (x.hb1, .inr (1, [.ref x.hy, .int (nI x.ku)])), (x.hy, .inl (cB, 256, .inl (x.fu))), (x.hf, .inr (1, [.ref x.hfy, .int (nI x.kf)])), (x.hfy, .inl (cB, 256, .inl (x.ff))), (x.hc, .inr (1, [.ref x.hcy, .int (nI x.kc)])), (x.hcy, .inl (cB, 256, .inl (x.fc)))] : va_W) ++ pW cB cR ds := by unfold kW; rw [hk.dw, hdn]; rfl
    have hst : (sDrop σ a1) = (σ, 1, 0) := by unfold sDrop; rw [if_pos hdn]
    rw [hst]
    exact kDown (x_dropDocument_D l hl9 dC dI sz h0 (.ref x.hd) (.ref x.hb1) (.ref x.hf) (.ref x.hc) (.ref x.hmk) (.ref x.hwr) x.md x.fs x.hp x.gi x.wl a1) (by decide) ((List.Perm.of_eq hW).trans (km0 (X1 := [(h0, .inr (0, [.ref x.hd, .ref x.hb1, .ref x.hf, .ref x.hc, .ref x.hmk, .ref x.hwr, .ref x.hp, .int x.md, .int x.fs])), (x.hp, .inr (4, [.int 1, .int x.gi, .int x.wl]))]) (X2 := [(x.hd, .inl (cD, 8, .inr (.inr (.inr (.inr ((dsA ds))))))), (x.hmk, .inr (2, [.ref x.hba, .ref x.hta, x.vp, .int x.a0])), (x.hta, .inr (1, [.ref x.hty, .int (nI x.k)])), (x.hty, .inl (cB, 256, .inl (x.f))), (x.hba, .inr (1, [.ref x.hby, .int (nI x.kb)])), (x.hby, .inl (cB, 256, .inl (x.fb))), (x.hwr, .inr (3, [.ref x.hrw, .int (nI x.q)])), (x.hrw, .inl (cB, 512, .inl (x.g))), (x.hb1, .inr (1, [.ref x.hy, .int (nI x.ku)])), (x.hy, .inl (cB, 256, .inl (x.fu))), (x.hf, .inr (1, [.ref x.hfy, .int (nI x.kf)])), (x.hfy, .inl (cB, 256, .inl (x.ff))), (x.hc, .inr (1, [.ref x.hcy, .int (nI x.kc)])), (x.hcy, .inl (cB, 256, .inl (x.fc)))]) (pick [0, 1, 2, 3, 4, 5, 6, 7, 8, 9, 10, 11, 12, 13, 14, 15] 16 rfl rfl rfl))) [] rfl hk (by decide) rfl
  | false =>
    obtain ⟨hgi, hgw⟩ := hk.gi hdn
    have hg : ∀ w, σ.go = some w → x.wl = nI w ∧ w < 2 ^ 31 := fun w h => ⟨hgw w h, hs.go w h⟩
    have hd0 : (0 : Int32) = bI σ.down := by rw [hdn]; rfl
    have hndn : ¬ σ.down = true := by rw [hdn]; decide
    have hW : kW h0 cB cD cR x ds = ([(h0, .inr (0, [.ref x.hd, .ref x.hb1, .ref x.hf, .ref x.hc, .ref x.hmk, .ref x.hwr, .ref x.hp, .int (nI σ.nd), .int σ.stp])), (x.hp, .inr (4, [.int 0, .int (bI σ.go.isSome), .int x.wl])), (x.hd, .inl (cD, 8, .inr (.inr (.inr (.inr ((dsA ds))))))), (x.hmk, .inr (2, [.ref x.hba, .ref x.hta, x.vp, .int x.a0])), (x.hta, .inr (1, [.ref x.hty, .int (nI x.k)])), (x.hty, .inl (cB, 256, .inl (x.f))), (x.hba, .inr (1, [.ref x.hby, .int (nI x.kb)])), (x.hby, .inl (cB, 256, .inl (x.fb))), (x.hwr, .inr (3, [.ref x.hrw, .int (nI x.q)])), (x.hrw, .inl (cB, 512, .inl (x.g))), (x.hb1, .inr (1, [.ref x.hy, .int (nI x.ku)])), (x.hy, .inl (cB, 256, .inl (x.fu))), (x.hf, .inr (1, [.ref x.hfy, .int (nI x.kf)])), (x.hfy, .inl (cB, 256, .inl (x.ff))), (x.hc, .inr (1, [.ref x.hcy, .int (nI x.kc)])), (x.hcy, .inl (cB, 256, .inl (x.fc)))] : va_W) ++ pW cB cR ds := by unfold kW; rw [hk.dw, hdn, hgi, hk.md, hk.fs]; rfl
    cases hd : dGet σ.ds a1 with
    | none =>
      have hdN := kdocN hk hd
      have hst : (sDrop σ a1) = (σ, 0, 0) := by unfold sDrop; rw [if_neg hndn, hd]
      rw [hst]
      exact kPure (g_drop_N l dC dI h0 (.ref x.hb1) (.ref x.hf) (.ref x.hc) (.ref x.hmk) (.ref x.hwr) (nI σ.nd) σ.stp x.hp (bI σ.go.isSome) x.wl x.hd cD (dsA ds) a1 hdN) (by decide) ((List.Perm.of_eq hW).trans (km0 (X1 := [(h0, .inr (0, [.ref x.hd, .ref x.hb1, .ref x.hf, .ref x.hc, .ref x.hmk, .ref x.hwr, .ref x.hp, .int (nI σ.nd), .int σ.stp])), (x.hp, .inr (4, [.int 0, .int (bI σ.go.isSome), .int x.wl])), (x.hd, .inl (cD, 8, .inr (.inr (.inr (.inr ((dsA ds)))))))]) (X2 := [(x.hmk, .inr (2, [.ref x.hba, .ref x.hta, x.vp, .int x.a0])), (x.hta, .inr (1, [.ref x.hty, .int (nI x.k)])), (x.hty, .inl (cB, 256, .inl (x.f))), (x.hba, .inr (1, [.ref x.hby, .int (nI x.kb)])), (x.hby, .inl (cB, 256, .inl (x.fb))), (x.hwr, .inr (3, [.ref x.hrw, .int (nI x.q)])), (x.hrw, .inl (cB, 512, .inl (x.g))), (x.hb1, .inr (1, [.ref x.hy, .int (nI x.ku)])), (x.hy, .inl (cB, 256, .inl (x.fu))), (x.hf, .inr (1, [.ref x.hfy, .int (nI x.kf)])), (x.hfy, .inl (cB, 256, .inl (x.ff))), (x.hc, .inr (1, [.ref x.hcy, .int (nI x.kc)])), (x.hcy, .inl (cB, 256, .inl (x.fc)))]) (pick [0, 1, 2, 3, 4, 5, 6, 7, 8, 9, 10, 11, 12, 13, 14, 15] 16 rfl rfl rfl))) [1] rfl hk
    | some p =>
      obtain ⟨i, dm⟩ := p
      obtain ⟨d, hi8, rfl, hdi, rfl, hdS, hc64, hok, hkp, hdm⟩ := kdocS hs hk hd
      have hfd : d.first ≤ d.count := hdm.1
      cases hsp : spend σ 1 with
      | none =>
        obtain ⟨w9, hw9, hlt⟩ := spend_none hsp
        have hst : (sDrop σ (nI i)) = (off σ, 1, 0) := by unfold sDrop; rw [if_neg hndn, hd]; show (match spend σ 1 with | none => _ | some τ => _) = _; rw [hsp]
        rw [hst]
        refine kThr (x_drop_X l hl9 dC dI sz h0 (.ref x.hf) (.ref x.hc) (.ref x.hmk) (.ref x.hwr) (nI σ.nd) σ.stp x.hp σ.go x.wl x.hb1 x.hy cB x.ku x.fu σ.buf w9 x.hd cD (dsA ds) (nI i) d.a hg hw9 hlt hk.bu.1 hk.bu.2 hdS) (by decide) ((List.Perm.of_eq hW).trans (km0 (X1 := [(h0, .inr (0, [.ref x.hd, .ref x.hb1, .ref x.hf, .ref x.hc, .ref x.hmk, .ref x.hwr, .ref x.hp, .int (nI σ.nd), .int σ.stp])), (x.hp, .inr (4, [.int 0, .int (bI σ.go.isSome), .int x.wl])), (x.hd, .inl (cD, 8, .inr (.inr (.inr (.inr ((dsA ds))))))), (x.hb1, .inr (1, [.ref x.hy, .int (nI x.ku)])), (x.hy, .inl (cB, 256, .inl (x.fu)))]) (X2 := [(x.hmk, .inr (2, [.ref x.hba, .ref x.hta, x.vp, .int x.a0])), (x.hta, .inr (1, [.ref x.hty, .int (nI x.k)])), (x.hty, .inl (cB, 256, .inl (x.f))), (x.hba, .inr (1, [.ref x.hby, .int (nI x.kb)])), (x.hby, .inl (cB, 256, .inl (x.fb))), (x.hwr, .inr (3, [.ref x.hrw, .int (nI x.q)])), (x.hrw, .inl (cB, 512, .inl (x.g))), (x.hf, .inr (1, [.ref x.hfy, .int (nI x.kf)])), (x.hfy, .inl (cB, 256, .inl (x.ff))), (x.hc, .inr (1, [.ref x.hcy, .int (nI x.kc)])), (x.hcy, .inl (cB, 256, .inl (x.fc)))]) (pick [0, 1, 2, 10, 11, 3, 4, 5, 6, 7, 8, 9, 12, 13, 14, 15] 16 rfl rfl rfl))) [1, 0] rfl (fun E t hb fr => ?_)
        obtain ⟨hE, hat⟩ := hb
        exact ⟨⟨(show ¬ (1 : Int32) = 0 by decide), hE⟩, (x.hd, x.hb1, x.hy, x.hf, x.hfy, x.hc, x.hcy, x.hmk, x.hta, x.hty, x.hba, x.hby, x.hwr, x.hrw, x.hp, 1, (bI σ.go.isSome), x.wl, (nI σ.nd), σ.stp, x.a0, x.vp, x.k, x.kb, x.q, 0, x.kf, x.kc, x.f, x.fb, x.g, x.fu, x.ff, x.fc), ds, (kOk.mk rfl (fun h => by cases h) rfl rfl hk.ds hk.ok hk.kp ⟨tx_nil _, Nat.zero_le _⟩ hk.fe hk.mt hk.mb hk.cm), fr _ _ _ hat (kz ((List.Perm.of_eq (rfl : kW h0 cB cD cR (x.hd, x.hb1, x.hy, x.hf, x.hfy, x.hc, x.hcy, x.hmk, x.hta, x.hty, x.hba, x.hby, x.hwr, x.hrw, x.hp, 1, (bI σ.go.isSome), x.wl, (nI σ.nd), σ.stp, x.a0, x.vp, x.k, x.kb, x.q, 0, x.kf, x.kc, x.f, x.fb, x.g, x.fu, x.ff, x.fc) ds = ([(h0, .inr (0, [.ref x.hd, .ref x.hb1, .ref x.hf, .ref x.hc, .ref x.hmk, .ref x.hwr, .ref x.hp, .int (nI σ.nd), .int σ.stp])), (x.hp, .inr (4, [.int 1, .int (bI σ.go.isSome), .int x.wl])), (x.hd, .inl (cD, 8, .inr (.inr (.inr (.inr ((dsA ds))))))), (x.hmk, .inr (2, [.ref x.hba, .ref x.hta, x.vp, .int x.a0])), (x.hta, .inr (1, [.ref x.hty, .int (nI x.k)])), (x.hty, .inl (cB, 256, .inl (x.f))), (x.hba, .inr (1, [.ref x.hby, .int (nI x.kb)])), (x.hby, .inl (cB, 256, .inl (x.fb))), (x.hwr, .inr (3, [.ref x.hrw, .int (nI x.q)])), (x.hrw, .inl (cB, 512, .inl (x.g))), (x.hb1, .inr (1, [.ref x.hy, .int (nI 0)])), (x.hy, .inl (cB, 256, .inl (x.fu))), (x.hf, .inr (1, [.ref x.hfy, .int (nI x.kf)])), (x.hfy, .inl (cB, 256, .inl (x.ff))), (x.hc, .inr (1, [.ref x.hcy, .int (nI x.kc)])), (x.hcy, .inl (cB, 256, .inl (x.fc)))] : va_W) ++ pW cB cR ds)).trans (km0 (X1 := [(h0, .inr (0, [.ref x.hd, .ref x.hb1, .ref x.hf, .ref x.hc, .ref x.hmk, .ref x.hwr, .ref x.hp, .int (nI σ.nd), .int σ.stp])), (x.hp, .inr (4, [.int 1, .int (bI σ.go.isSome), .int x.wl])), (x.hd, .inl (cD, 8, .inr (.inr (.inr (.inr ((dsA ds))))))), (x.hb1, .inr (1, [.ref x.hy, .int (nI 0)])), (x.hy, .inl (cB, 256, .inl (x.fu)))]) (X2 := [(x.hmk, .inr (2, [.ref x.hba, .ref x.hta, x.vp, .int x.a0])), (x.hta, .inr (1, [.ref x.hty, .int (nI x.k)])), (x.hty, .inl (cB, 256, .inl (x.f))), (x.hba, .inr (1, [.ref x.hby, .int (nI x.kb)])), (x.hby, .inl (cB, 256, .inl (x.fb))), (x.hwr, .inr (3, [.ref x.hrw, .int (nI x.q)])), (x.hrw, .inl (cB, 512, .inl (x.g))), (x.hf, .inr (1, [.ref x.hfy, .int (nI x.kf)])), (x.hfy, .inl (cB, 256, .inl (x.ff))), (x.hc, .inr (1, [.ref x.hcy, .int (nI x.kc)])), (x.hcy, .inl (cB, 256, .inl (x.fc)))]) (pick [0, 1, 2, 10, 11, 3, 4, 5, 6, 7, 8, 9, 12, 13, 14, 15] 16 rfl rfl rfl))))⟩
      | some τ =>
        obtain ⟨rfl, hle⟩ := spend_some hsp
        have hst : (sDrop σ (nI i)) = (sgD (sgG σ (σ.go.map (· - 1))) (va_up σ.ds i none), 0, 1) := by unfold sDrop; rw [if_neg hndn, hd]; show (match spend σ 1 with | none => _ | some τ => _) = _; rw [hsp]
        rw [hst]
        refine kRet (g_drop_T l dC dI sz h0 (.ref x.hb1) (.ref x.hf) (.ref x.hc) (.ref x.hmk) (.ref x.hwr) (nI σ.nd) σ.stp x.hp σ.go x.wl x.hd cD (dsA ds) i d.a hg hle hi8 hdS) (by decide) ((List.Perm.of_eq hW).trans (km0 (X1 := [(h0, .inr (0, [.ref x.hd, .ref x.hb1, .ref x.hf, .ref x.hc, .ref x.hmk, .ref x.hwr, .ref x.hp, .int (nI σ.nd), .int σ.stp])), (x.hp, .inr (4, [.int 0, .int (bI σ.go.isSome), .int x.wl])), (x.hd, .inl (cD, 8, .inr (.inr (.inr (.inr ((dsA ds)))))))]) (X2 := [(x.hmk, .inr (2, [.ref x.hba, .ref x.hta, x.vp, .int x.a0])), (x.hta, .inr (1, [.ref x.hty, .int (nI x.k)])), (x.hty, .inl (cB, 256, .inl (x.f))), (x.hba, .inr (1, [.ref x.hby, .int (nI x.kb)])), (x.hby, .inl (cB, 256, .inl (x.fb))), (x.hwr, .inr (3, [.ref x.hrw, .int (nI x.q)])), (x.hrw, .inl (cB, 512, .inl (x.g))), (x.hb1, .inr (1, [.ref x.hy, .int (nI x.ku)])), (x.hy, .inl (cB, 256, .inl (x.fu))), (x.hf, .inr (1, [.ref x.hfy, .int (nI x.kf)])), (x.hfy, .inl (cB, 256, .inl (x.ff))), (x.hc, .inr (1, [.ref x.hcy, .int (nI x.kc)])), (x.hcy, .inl (cB, 256, .inl (x.fc)))]) (pick [0, 1, 2, 3, 4, 5, 6, 7, 8, 9, 10, 11, 12, 13, 14, 15] 16 rfl rfl rfl))) [1] rfl (fun r h => ⟨rfl, h⟩) (fun t hb fr => ?_)
        obtain ⟨wl2, hwl, hat⟩ := hb
        exact ⟨(x.hd, x.hb1, x.hy, x.hf, x.hfy, x.hc, x.hcy, x.hmk, x.hta, x.hty, x.hba, x.hby, x.hwr, x.hrw, x.hp, 0, (bI σ.go.isSome), wl2, (nI σ.nd), σ.stp, x.a0, x.vp, x.k, x.kb, x.q, x.ku, x.kf, x.kc, x.f, x.fb, x.g, x.fu, x.ff, x.fc), (va_up ds i none), (kOk.mk hd0 (fun _ => kgo hwl) rfl rfl (by rw [dsM_up, ← hk.ds]; rfl) (kok_dn hk.ok) (kpt_dn hk.kp) hk.bu hk.fe hk.mt hk.mb hk.cm), fr _ _ _ hat (kzd hi8 hdi (fun P => (km0 (X1 := [(h0, .inr (0, [.ref x.hd, .ref x.hb1, .ref x.hf, .ref x.hc, .ref x.hmk, .ref x.hwr, .ref x.hp, .int (nI σ.nd), .int σ.stp])), (x.hp, .inr (4, [.int 0, .int (bI σ.go.isSome), .int wl2])), (x.hd, .inl (cD, 8, .inr (.inr (.inr (.inr ((va_up (dsA ds) i none)))))))]) (X2 := [(x.hmk, .inr (2, [.ref x.hba, .ref x.hta, x.vp, .int x.a0])), (x.hta, .inr (1, [.ref x.hty, .int (nI x.k)])), (x.hty, .inl (cB, 256, .inl (x.f))), (x.hba, .inr (1, [.ref x.hby, .int (nI x.kb)])), (x.hby, .inl (cB, 256, .inl (x.fb))), (x.hwr, .inr (3, [.ref x.hrw, .int (nI x.q)])), (x.hrw, .inl (cB, 512, .inl (x.g))), (x.hb1, .inr (1, [.ref x.hy, .int (nI x.ku)])), (x.hy, .inl (cB, 256, .inl (x.fu))), (x.hf, .inr (1, [.ref x.hfy, .int (nI x.kf)])), (x.hfy, .inl (cB, 256, .inl (x.ff))), (x.hc, .inr (1, [.ref x.hcy, .int (nI x.kc)])), (x.hcy, .inl (cB, 256, .inl (x.fc)))]) (pick [0, 1, 2, 3, 4, 5, 6, 7, 8, 9, 10, 11, 12, 13, 14, 15] 16 rfl rfl rfl))) (show kW h0 cB cD cR (x.hd, x.hb1, x.hy, x.hf, x.hfy, x.hc, x.hcy, x.hmk, x.hta, x.hty, x.hba, x.hby, x.hwr, x.hrw, x.hp, 0, (bI σ.go.isSome), wl2, (nI σ.nd), σ.stp, x.a0, x.vp, x.k, x.kb, x.q, x.ku, x.kf, x.kc, x.f, x.fb, x.g, x.fu, x.ff, x.fc) (va_up ds i none) = ([(h0, .inr (0, [.ref x.hd, .ref x.hb1, .ref x.hf, .ref x.hc, .ref x.hmk, .ref x.hwr, .ref x.hp, .int (nI σ.nd), .int σ.stp])), (x.hp, .inr (4, [.int 0, .int (bI σ.go.isSome), .int wl2])), (x.hd, .inl (cD, 8, .inr (.inr (.inr (.inr ((va_up (dsA ds) i none))))))), (x.hmk, .inr (2, [.ref x.hba, .ref x.hta, x.vp, .int x.a0])), (x.hta, .inr (1, [.ref x.hty, .int (nI x.k)])), (x.hty, .inl (cB, 256, .inl (x.f))), (x.hba, .inr (1, [.ref x.hby, .int (nI x.kb)])), (x.hby, .inl (cB, 256, .inl (x.fb))), (x.hwr, .inr (3, [.ref x.hrw, .int (nI x.q)])), (x.hrw, .inl (cB, 512, .inl (x.g))), (x.hb1, .inr (1, [.ref x.hy, .int (nI x.ku)])), (x.hy, .inl (cB, 256, .inl (x.fu))), (x.hf, .inr (1, [.ref x.hfy, .int (nI x.kf)])), (x.hfy, .inl (cB, 256, .inl (x.ff))), (x.hc, .inr (1, [.ref x.hcy, .int (nI x.kc)])), (x.hcy, .inl (cB, 256, .inl (x.fc)))] : va_W) ++ pW cB cR (va_up ds i none) by unfold kW; rw [dsA_up]; rfl))⟩
set_option maxHeartbeats 4000000 in
set_option maxRecDepth 100000 in
theorem k_about (l : Launch) (hl9 : l.stackTraces = false) (dC : Nat → ClassId) (dI : Nat → Nat → Nat) (sz : Nat) (h0 : Nat) (cB cD cR : ClassId) (x : KX) (ds : Nat → Option Dc) (σ : Sg) (a1 : Int32) (a2 : Int32) (hs : sOk σ) (hk : kOk σ x ds) : kMet l y_K_about k_K_about ex3 (dC, dI) sz h0 cB cD cR x ds [.ref h0, .int a1, .int a2] (sAbout σ a1 a2) := by
  cases hdn : σ.down with
  | true =>
    have hW : kW h0 cB cD cR x ds = ([(h0, .inr (0, [.ref x.hd, .ref x.hb1, .ref x.hf, .ref x.hc, .ref x.hmk, .ref x.hwr, .ref x.hp, .int x.md, .int x.fs])), (x.hp, .inr (4, [.int 1, .int x.gi, .int x.wl])), (x.hd, .inl (cD, 8, .inr (.inr (.inr (.inr ((dsA ds))))))), (x.hmk, .inr (2, [.ref x.hba, .ref x.hta, x.vp, .int x.a0])), (x.hta, .inr (1, [.ref x.hty, .int (nI x.k)])), (x.hty, .inl (cB, 256, .inl (x.f))), (x.hba, .inr (1, [.ref x.hby, .int (nI x.kb)])), (x.hby, .inl (cB, 256, .inl (x.fb))), (x.hwr, .inr (3, [.ref x.hrw, .int (nI x.q)])), (x.hrw, .inl (cB, 512, .inl (x.g))), (x.hb1, .inr (1, [.ref x.hy, .int (nI x.ku)])), (x.hy, .inl (cB, 256, .inl (x.fu))), (x.hf, .inr (1, [.ref x.hfy, .int (nI x.kf)])), (x.hfy, .inl (cB, 256, .inl (x.ff))), (x.hc, .inr (1, [.ref x.hcy, .int (nI x.kc)])), (x.hcy, .inl (cB, 256, .inl (x.fc)))] : va_W) ++ pW cB cR ds := by unfold kW; rw [hk.dw, hdn]; rfl
    have hst : (sAbout σ a1 a2) = (σ, 3, 0) := by unfold sAbout; rw [if_pos hdn]
    rw [hst]
    exact kDown (x_about_D l hl9 dC dI sz h0 (.ref x.hd) (.ref x.hb1) (.ref x.hf) (.ref x.hc) (.ref x.hmk) (.ref x.hwr) x.md x.fs x.hp x.gi x.wl a1 a2) (by decide) ((List.Perm.of_eq hW).trans (km0 (X1 := [(h0, .inr (0, [.ref x.hd, .ref x.hb1, .ref x.hf, .ref x.hc, .ref x.hmk, .ref x.hwr, .ref x.hp, .int x.md, .int x.fs])), (x.hp, .inr (4, [.int 1, .int x.gi, .int x.wl]))]) (X2 := [(x.hd, .inl (cD, 8, .inr (.inr (.inr (.inr ((dsA ds))))))), (x.hmk, .inr (2, [.ref x.hba, .ref x.hta, x.vp, .int x.a0])), (x.hta, .inr (1, [.ref x.hty, .int (nI x.k)])), (x.hty, .inl (cB, 256, .inl (x.f))), (x.hba, .inr (1, [.ref x.hby, .int (nI x.kb)])), (x.hby, .inl (cB, 256, .inl (x.fb))), (x.hwr, .inr (3, [.ref x.hrw, .int (nI x.q)])), (x.hrw, .inl (cB, 512, .inl (x.g))), (x.hb1, .inr (1, [.ref x.hy, .int (nI x.ku)])), (x.hy, .inl (cB, 256, .inl (x.fu))), (x.hf, .inr (1, [.ref x.hfy, .int (nI x.kf)])), (x.hfy, .inl (cB, 256, .inl (x.ff))), (x.hc, .inr (1, [.ref x.hcy, .int (nI x.kc)])), (x.hcy, .inl (cB, 256, .inl (x.fc)))]) (pick [0, 1, 2, 3, 4, 5, 6, 7, 8, 9, 10, 11, 12, 13, 14, 15] 16 rfl rfl rfl))) [] rfl hk (by decide) rfl
  | false =>
    obtain ⟨hgi, hgw⟩ := hk.gi hdn
    have hg : ∀ w, σ.go = some w → x.wl = nI w ∧ w < 2 ^ 31 := fun w h => ⟨hgw w h, hs.go w h⟩
    have hd0 : (0 : Int32) = bI σ.down := by rw [hdn]; rfl
    have hndn : ¬ σ.down = true := by rw [hdn]; decide
    have hW : kW h0 cB cD cR x ds = ([(h0, .inr (0, [.ref x.hd, .ref x.hb1, .ref x.hf, .ref x.hc, .ref x.hmk, .ref x.hwr, .ref x.hp, .int (nI σ.nd), .int σ.stp])), (x.hp, .inr (4, [.int 0, .int (bI σ.go.isSome), .int x.wl])), (x.hd, .inl (cD, 8, .inr (.inr (.inr (.inr ((dsA ds))))))), (x.hmk, .inr (2, [.ref x.hba, .ref x.hta, x.vp, .int x.a0])), (x.hta, .inr (1, [.ref x.hty, .int (nI x.k)])), (x.hty, .inl (cB, 256, .inl (x.f))), (x.hba, .inr (1, [.ref x.hby, .int (nI x.kb)])), (x.hby, .inl (cB, 256, .inl (x.fb))), (x.hwr, .inr (3, [.ref x.hrw, .int (nI x.q)])), (x.hrw, .inl (cB, 512, .inl (x.g))), (x.hb1, .inr (1, [.ref x.hy, .int (nI x.ku)])), (x.hy, .inl (cB, 256, .inl (x.fu))), (x.hf, .inr (1, [.ref x.hfy, .int (nI x.kf)])), (x.hfy, .inl (cB, 256, .inl (x.ff))), (x.hc, .inr (1, [.ref x.hcy, .int (nI x.kc)])), (x.hcy, .inl (cB, 256, .inl (x.fc)))] : va_W) ++ pW cB cR ds := by unfold kW; rw [hk.dw, hdn, hgi, hk.md, hk.fs]; rfl
    cases hd : dGet σ.ds a1 with
    | none =>
      have hdN := kdocN hk hd
      have hst : (sAbout σ a1 a2) = (σ, 1, 0) := by unfold sAbout; rw [if_neg hndn, hd]
      rw [hst]
      exact kThrow (x_about_N l hl9 dC dI sz h0 (.ref x.hb1) (.ref x.hf) (.ref x.hc) (.ref x.hmk) (.ref x.hwr) (nI σ.nd) σ.stp x.hp (bI σ.go.isSome) x.wl x.hd cD (dsA ds) a1 a2 hdN) (by decide) ((List.Perm.of_eq hW).trans (km0 (X1 := [(h0, .inr (0, [.ref x.hd, .ref x.hb1, .ref x.hf, .ref x.hc, .ref x.hmk, .ref x.hwr, .ref x.hp, .int (nI σ.nd), .int σ.stp])), (x.hp, .inr (4, [.int 0, .int (bI σ.go.isSome), .int x.wl])), (x.hd, .inl (cD, 8, .inr (.inr (.inr (.inr ((dsA ds)))))))]) (X2 := [(x.hmk, .inr (2, [.ref x.hba, .ref x.hta, x.vp, .int x.a0])), (x.hta, .inr (1, [.ref x.hty, .int (nI x.k)])), (x.hty, .inl (cB, 256, .inl (x.f))), (x.hba, .inr (1, [.ref x.hby, .int (nI x.kb)])), (x.hby, .inl (cB, 256, .inl (x.fb))), (x.hwr, .inr (3, [.ref x.hrw, .int (nI x.q)])), (x.hrw, .inl (cB, 512, .inl (x.g))), (x.hb1, .inr (1, [.ref x.hy, .int (nI x.ku)])), (x.hy, .inl (cB, 256, .inl (x.fu))), (x.hf, .inr (1, [.ref x.hfy, .int (nI x.kf)])), (x.hfy, .inl (cB, 256, .inl (x.ff))), (x.hc, .inr (1, [.ref x.hcy, .int (nI x.kc)])), (x.hcy, .inl (cB, 256, .inl (x.fc)))]) (pick [0, 1, 2, 3, 4, 5, 6, 7, 8, 9, 10, 11, 12, 13, 14, 15] 16 rfl rfl rfl))) [1] rfl hk (by decide) rfl
    | some p =>
      obtain ⟨i, dm⟩ := p
      obtain ⟨d, hi8, rfl, hdi, rfl, hdS, hc64, hok, hkp, hdm⟩ := kdocS hs hk hd
      have hfd : d.first ≤ d.count := hdm.1
      by_cases q : a2 = 0
      · subst q
        have hst : (sAbout σ (nI i) 0) = (σ, 0, nI d.first) := by unfold sAbout; rw [if_neg hndn, hd]; exact if_pos rfl
        rw [hst]
        exact kPure (g_about_0 l dC dI h0 (.ref x.hb1) (.ref x.hf) (.ref x.hc) (.ref x.hmk) (.ref x.hwr) (nI σ.nd) σ.stp x.hp (bI σ.go.isSome) x.wl x.hd cD (dsA ds) d.a d.ra cR d.first d.count (rvA d.rv) (nI i) hdS hc64) (by decide) ((List.Perm.of_eq hW).trans (km (X1 := [(h0, .inr (0, [.ref x.hd, .ref x.hb1, .ref x.hf, .ref x.hc, .ref x.hmk, .ref x.hwr, .ref x.hp, .int (nI σ.nd), .int σ.stp])), (x.hp, .inr (4, [.int 0, .int (bI σ.go.isSome), .int x.wl])), (x.hd, .inl (cD, 8, .inr (.inr (.inr (.inr ((dsA ds)))))))]) (X2 := [(x.hmk, .inr (2, [.ref x.hba, .ref x.hta, x.vp, .int x.a0])), (x.hta, .inr (1, [.ref x.hty, .int (nI x.k)])), (x.hty, .inl (cB, 256, .inl (x.f))), (x.hba, .inr (1, [.ref x.hby, .int (nI x.kb)])), (x.hby, .inl (cB, 256, .inl (x.fb))), (x.hwr, .inr (3, [.ref x.hrw, .int (nI x.q)])), (x.hrw, .inl (cB, 512, .inl (x.g))), (x.hb1, .inr (1, [.ref x.hy, .int (nI x.ku)])), (x.hy, .inl (cB, 256, .inl (x.fu))), (x.hf, .inr (1, [.ref x.hfy, .int (nI x.kf)])), (x.hfy, .inl (cB, 256, .inl (x.ff))), (x.hc, .inr (1, [.ref x.hcy, .int (nI x.kc)])), (x.hcy, .inl (cB, 256, .inl (x.fc)))]) (pick [0, 1, 2, 3, 4, 5, 6, 7, 8, 9, 10, 11, 12, 13, 14, 15] 16 rfl rfl rfl) (pW_take hi8 hdi))) [1, 2] rfl hk
      · by_cases q1 : a2 = 1
        · subst q1
          have hst : (sAbout σ (nI i) 1) = (σ, 0, nwI d.count) := by unfold sAbout; rw [if_neg hndn, hd]; exact (if_neg q).trans (if_pos rfl)
          rw [hst]
          exact kPure (g_about_1 l dC dI h0 (.ref x.hb1) (.ref x.hf) (.ref x.hc) (.ref x.hmk) (.ref x.hwr) (nI σ.nd) σ.stp x.hp (bI σ.go.isSome) x.wl x.hd cD (dsA ds) d.a d.ra cR d.first d.count (rvA d.rv) (nI i) hdS hc64) (by decide) ((List.Perm.of_eq hW).trans (km (X1 := [(h0, .inr (0, [.ref x.hd, .ref x.hb1, .ref x.hf, .ref x.hc, .ref x.hmk, .ref x.hwr, .ref x.hp, .int (nI σ.nd), .int σ.stp])), (x.hp, .inr (4, [.int 0, .int (bI σ.go.isSome), .int x.wl])), (x.hd, .inl (cD, 8, .inr (.inr (.inr (.inr ((dsA ds)))))))]) (X2 := [(x.hmk, .inr (2, [.ref x.hba, .ref x.hta, x.vp, .int x.a0])), (x.hta, .inr (1, [.ref x.hty, .int (nI x.k)])), (x.hty, .inl (cB, 256, .inl (x.f))), (x.hba, .inr (1, [.ref x.hby, .int (nI x.kb)])), (x.hby, .inl (cB, 256, .inl (x.fb))), (x.hwr, .inr (3, [.ref x.hrw, .int (nI x.q)])), (x.hrw, .inl (cB, 512, .inl (x.g))), (x.hb1, .inr (1, [.ref x.hy, .int (nI x.ku)])), (x.hy, .inl (cB, 256, .inl (x.fu))), (x.hf, .inr (1, [.ref x.hfy, .int (nI x.kf)])), (x.hfy, .inl (cB, 256, .inl (x.ff))), (x.hc, .inr (1, [.ref x.hcy, .int (nI x.kc)])), (x.hcy, .inl (cB, 256, .inl (x.fc)))]) (pick [0, 1, 2, 3, 4, 5, 6, 7, 8, 9, 10, 11, 12, 13, 14, 15] 16 rfl rfl rfl) (pW_take hi8 hdi))) [1, 2] rfl hk
        · have hst : (sAbout σ (nI i) a2) = (σ, 2, 0) := by unfold sAbout; rw [if_neg hndn, hd]; exact (if_neg q).trans (if_neg q1)
          rw [hst]
          exact kThrow (x_about_A l hl9 dC dI sz h0 (.ref x.hb1) (.ref x.hf) (.ref x.hc) (.ref x.hmk) (.ref x.hwr) (nI σ.nd) σ.stp x.hp (bI σ.go.isSome) x.wl x.hd cD (dsA ds) d.a d.ra cR d.first d.count (rvA d.rv) (nI i) a2 hdS hc64 q q1) (by decide) ((List.Perm.of_eq hW).trans (km (X1 := [(h0, .inr (0, [.ref x.hd, .ref x.hb1, .ref x.hf, .ref x.hc, .ref x.hmk, .ref x.hwr, .ref x.hp, .int (nI σ.nd), .int σ.stp])), (x.hp, .inr (4, [.int 0, .int (bI σ.go.isSome), .int x.wl])), (x.hd, .inl (cD, 8, .inr (.inr (.inr (.inr ((dsA ds)))))))]) (X2 := [(x.hmk, .inr (2, [.ref x.hba, .ref x.hta, x.vp, .int x.a0])), (x.hta, .inr (1, [.ref x.hty, .int (nI x.k)])), (x.hty, .inl (cB, 256, .inl (x.f))), (x.hba, .inr (1, [.ref x.hby, .int (nI x.kb)])), (x.hby, .inl (cB, 256, .inl (x.fb))), (x.hwr, .inr (3, [.ref x.hrw, .int (nI x.q)])), (x.hrw, .inl (cB, 512, .inl (x.g))), (x.hb1, .inr (1, [.ref x.hy, .int (nI x.ku)])), (x.hy, .inl (cB, 256, .inl (x.fu))), (x.hf, .inr (1, [.ref x.hfy, .int (nI x.kf)])), (x.hfy, .inl (cB, 256, .inl (x.ff))), (x.hc, .inr (1, [.ref x.hcy, .int (nI x.kc)])), (x.hcy, .inl (cB, 256, .inl (x.fc)))]) (pick [0, 1, 2, 3, 4, 5, 6, 7, 8, 9, 10, 11, 12, 13, 14, 15] 16 rfl rfl rfl) (pW_take hi8 hdi))) [1, 2] rfl hk (by decide) rfl
set_option maxHeartbeats 4000000 in
set_option maxRecDepth 100000 in
theorem k_pieceByte (l : Launch) (hl9 : l.stackTraces = false) (dC : Nat → ClassId) (dI : Nat → Nat → Nat) (sz : Nat) (h0 : Nat) (cB cD cR : ClassId) (x : KX) (ds : Nat → Option Dc) (σ : Sg) (a1 : Int32) (a2 : Int32) (a3 : Int32) (hs : sOk σ) (hk : kOk σ x ds) : kMet l y_K_pieceByte k_K_pieceByte ex1 (dC, dI) sz h0 cB cD cR x ds [.ref h0, .int a1, .int a2, .int a3] (sByte σ a1 a2 a3) := by
  cases hdn : σ.down with
  | true =>
    have hW : kW h0 cB cD cR x ds = ([(h0, .inr (0, [.ref x.hd, .ref x.hb1, .ref x.hf, .ref x.hc, .ref x.hmk, .ref x.hwr, .ref x.hp, .int x.md, .int x.fs])), (x.hp, .inr (4, [.int 1, .int x.gi, .int x.wl])), (x.hd, .inl (cD, 8, .inr (.inr (.inr (.inr ((dsA ds))))))), (x.hmk, .inr (2, [.ref x.hba, .ref x.hta, x.vp, .int x.a0])), (x.hta, .inr (1, [.ref x.hty, .int (nI x.k)])), (x.hty, .inl (cB, 256, .inl (x.f))), (x.hba, .inr (1, [.ref x.hby, .int (nI x.kb)])), (x.hby, .inl (cB, 256, .inl (x.fb))), (x.hwr, .inr (3, [.ref x.hrw, .int (nI x.q)])), (x.hrw, .inl (cB, 512, .inl (x.g))), (x.hb1, .inr (1, [.ref x.hy, .int (nI x.ku)])), (x.hy, .inl (cB, 256, .inl (x.fu))), (x.hf, .inr (1, [.ref x.hfy, .int (nI x.kf)])), (x.hfy, .inl (cB, 256, .inl (x.ff))), (x.hc, .inr (1, [.ref x.hcy, .int (nI x.kc)])), (x.hcy, .inl (cB, 256, .inl (x.fc)))] : va_W) ++ pW cB cR ds := by unfold kW; rw [hk.dw, hdn]; rfl
    have hst : (sByte σ a1 a2 a3) = (σ, 1, 0) := by unfold sByte; rw [if_pos hdn]
    rw [hst]
    exact kDown (x_pieceByte_D l hl9 dC dI sz h0 (.ref x.hd) (.ref x.hb1) (.ref x.hf) (.ref x.hc) (.ref x.hmk) (.ref x.hwr) x.md x.fs x.hp x.gi x.wl a1 a2 a3) (by decide) ((List.Perm.of_eq hW).trans (km0 (X1 := [(h0, .inr (0, [.ref x.hd, .ref x.hb1, .ref x.hf, .ref x.hc, .ref x.hmk, .ref x.hwr, .ref x.hp, .int x.md, .int x.fs])), (x.hp, .inr (4, [.int 1, .int x.gi, .int x.wl]))]) (X2 := [(x.hd, .inl (cD, 8, .inr (.inr (.inr (.inr ((dsA ds))))))), (x.hmk, .inr (2, [.ref x.hba, .ref x.hta, x.vp, .int x.a0])), (x.hta, .inr (1, [.ref x.hty, .int (nI x.k)])), (x.hty, .inl (cB, 256, .inl (x.f))), (x.hba, .inr (1, [.ref x.hby, .int (nI x.kb)])), (x.hby, .inl (cB, 256, .inl (x.fb))), (x.hwr, .inr (3, [.ref x.hrw, .int (nI x.q)])), (x.hrw, .inl (cB, 512, .inl (x.g))), (x.hb1, .inr (1, [.ref x.hy, .int (nI x.ku)])), (x.hy, .inl (cB, 256, .inl (x.fu))), (x.hf, .inr (1, [.ref x.hfy, .int (nI x.kf)])), (x.hfy, .inl (cB, 256, .inl (x.ff))), (x.hc, .inr (1, [.ref x.hcy, .int (nI x.kc)])), (x.hcy, .inl (cB, 256, .inl (x.fc)))]) (pick [0, 1, 2, 3, 4, 5, 6, 7, 8, 9, 10, 11, 12, 13, 14, 15] 16 rfl rfl rfl))) [] rfl hk (by decide) rfl
  | false =>
    obtain ⟨hgi, hgw⟩ := hk.gi hdn
    have hg : ∀ w, σ.go = some w → x.wl = nI w ∧ w < 2 ^ 31 := fun w h => ⟨hgw w h, hs.go w h⟩
    have hd0 : (0 : Int32) = bI σ.down := by rw [hdn]; rfl
    have hndn : ¬ σ.down = true := by rw [hdn]; decide
    have hW : kW h0 cB cD cR x ds = ([(h0, .inr (0, [.ref x.hd, .ref x.hb1, .ref x.hf, .ref x.hc, .ref x.hmk, .ref x.hwr, .ref x.hp, .int (nI σ.nd), .int σ.stp])), (x.hp, .inr (4, [.int 0, .int (bI σ.go.isSome), .int x.wl])), (x.hd, .inl (cD, 8, .inr (.inr (.inr (.inr ((dsA ds))))))), (x.hmk, .inr (2, [.ref x.hba, .ref x.hta, x.vp, .int x.a0])), (x.hta, .inr (1, [.ref x.hty, .int (nI x.k)])), (x.hty, .inl (cB, 256, .inl (x.f))), (x.hba, .inr (1, [.ref x.hby, .int (nI x.kb)])), (x.hby, .inl (cB, 256, .inl (x.fb))), (x.hwr, .inr (3, [.ref x.hrw, .int (nI x.q)])), (x.hrw, .inl (cB, 512, .inl (x.g))), (x.hb1, .inr (1, [.ref x.hy, .int (nI x.ku)])), (x.hy, .inl (cB, 256, .inl (x.fu))), (x.hf, .inr (1, [.ref x.hfy, .int (nI x.kf)])), (x.hfy, .inl (cB, 256, .inl (x.ff))), (x.hc, .inr (1, [.ref x.hcy, .int (nI x.kc)])), (x.hcy, .inl (cB, 256, .inl (x.fc)))] : va_W) ++ pW cB cR ds := by unfold kW; rw [hk.dw, hdn, hgi, hk.md, hk.fs]; rfl
    cases hd : dGet σ.ds a1 with
    | none =>
      have hdN := kdocN hk hd
      have hrg := krGn (a2 := a2) hd
      have hst : (sByte σ a1 a2 a3) = (σ, 0, -1) := by unfold sByte; rw [if_neg hndn, hrg]
      rw [hst]
      exact kPure (g_pieceByte_D l dC dI h0 (.ref x.hb1) (.ref x.hf) (.ref x.hc) (.ref x.hmk) (.ref x.hwr) (nI σ.nd) σ.stp x.hp (bI σ.go.isSome) x.wl x.hd cD (dsA ds) a1 a2 a3 hdN) (by decide) ((List.Perm.of_eq hW).trans (km0 (X1 := [(h0, .inr (0, [.ref x.hd, .ref x.hb1, .ref x.hf, .ref x.hc, .ref x.hmk, .ref x.hwr, .ref x.hp, .int (nI σ.nd), .int σ.stp])), (x.hp, .inr (4, [.int 0, .int (bI σ.go.isSome), .int x.wl])), (x.hd, .inl (cD, 8, .inr (.inr (.inr (.inr ((dsA ds)))))))]) (X2 := [(x.hmk, .inr (2, [.ref x.hba, .ref x.hta, x.vp, .int x.a0])), (x.hta, .inr (1, [.ref x.hty, .int (nI x.k)])), (x.hty, .inl (cB, 256, .inl (x.f))), (x.hba, .inr (1, [.ref x.hby, .int (nI x.kb)])), (x.hby, .inl (cB, 256, .inl (x.fb))), (x.hwr, .inr (3, [.ref x.hrw, .int (nI x.q)])), (x.hrw, .inl (cB, 512, .inl (x.g))), (x.hb1, .inr (1, [.ref x.hy, .int (nI x.ku)])), (x.hy, .inl (cB, 256, .inl (x.fu))), (x.hf, .inr (1, [.ref x.hfy, .int (nI x.kf)])), (x.hfy, .inl (cB, 256, .inl (x.ff))), (x.hc, .inr (1, [.ref x.hcy, .int (nI x.kc)])), (x.hcy, .inl (cB, 256, .inl (x.fc)))]) (pick [0, 1, 2, 3, 4, 5, 6, 7, 8, 9, 10, 11, 12, 13, 14, 15] 16 rfl rfl rfl))) [1] rfl hk
    | some p =>
      obtain ⟨i, dm⟩ := p
      obtain ⟨d, hi8, rfl, hdi, rfl, hdS, hc64, hok, hkp, hdm⟩ := kdocS hs hk hd
      have hfd : d.first ≤ d.count := hdm.1
      by_cases q : a2 < 0 ∨ nI d.count ≤ a2
      · have hkN := krN1 q
        have hrg := krG0 hd q
        have hst : (sByte σ (nI i) a2 a3) = (σ, 0, -1) := by unfold sByte; rw [if_neg hndn, hrg]
        rw [hst]
        exact kPure (g_pieceByte_N l dC dI h0 (.ref x.hb1) (.ref x.hf) (.ref x.hc) (.ref x.hmk) (.ref x.hwr) (nI σ.nd) σ.stp x.hp (bI σ.go.isSome) x.wl x.hd cD (dsA ds) d.a d.ra cR d.first d.count (rvA d.rv) (nI i) a2 a3 hdS hc64 hkN) (by decide) ((List.Perm.of_eq hW).trans (km (X1 := [(h0, .inr (0, [.ref x.hd, .ref x.hb1, .ref x.hf, .ref x.hc, .ref x.hmk, .ref x.hwr, .ref x.hp, .int (nI σ.nd), .int σ.stp])), (x.hp, .inr (4, [.int 0, .int (bI σ.go.isSome), .int x.wl])), (x.hd, .inl (cD, 8, .inr (.inr (.inr (.inr ((dsA ds)))))))]) (X2 := [(x.hmk, .inr (2, [.ref x.hba, .ref x.hta, x.vp, .int x.a0])), (x.hta, .inr (1, [.ref x.hty, .int (nI x.k)])), (x.hty, .inl (cB, 256, .inl (x.f))), (x.hba, .inr (1, [.ref x.hby, .int (nI x.kb)])), (x.hby, .inl (cB, 256, .inl (x.fb))), (x.hwr, .inr (3, [.ref x.hrw, .int (nI x.q)])), (x.hrw, .inl (cB, 512, .inl (x.g))), (x.hb1, .inr (1, [.ref x.hy, .int (nI x.ku)])), (x.hy, .inl (cB, 256, .inl (x.fu))), (x.hf, .inr (1, [.ref x.hfy, .int (nI x.kf)])), (x.hfy, .inl (cB, 256, .inl (x.ff))), (x.hc, .inr (1, [.ref x.hcy, .int (nI x.kc)])), (x.hcy, .inl (cB, 256, .inl (x.fc)))]) (pick [0, 1, 2, 3, 4, 5, 6, 7, 8, 9, 10, 11, 12, 13, 14, 15] 16 rfl rfl rfl) (pW_take hi8 hdi))) [1, 2] rfl hk
      · obtain ⟨j, rfl, hj, hj64, hcj⟩ := krj hc64 q
        cases hrj : d.rv j with
        | none =>
          have hkN := krN2 hc64 hj hrj
          have hrg := krG1 hd q hcj hrj
          have hst : (sByte σ (nI i) (nI j) a3) = (σ, 0, -1) := by unfold sByte; rw [if_neg hndn, hrg]
          rw [hst]
          exact kPure (g_pieceByte_N l dC dI h0 (.ref x.hb1) (.ref x.hf) (.ref x.hc) (.ref x.hmk) (.ref x.hwr) (nI σ.nd) σ.stp x.hp (bI σ.go.isSome) x.wl x.hd cD (dsA ds) d.a d.ra cR d.first d.count (rvA d.rv) (nI i) (nI j) a3 hdS hc64 hkN) (by decide) ((List.Perm.of_eq hW).trans (km (X1 := [(h0, .inr (0, [.ref x.hd, .ref x.hb1, .ref x.hf, .ref x.hc, .ref x.hmk, .ref x.hwr, .ref x.hp, .int (nI σ.nd), .int σ.stp])), (x.hp, .inr (4, [.int 0, .int (bI σ.go.isSome), .int x.wl])), (x.hd, .inl (cD, 8, .inr (.inr (.inr (.inr ((dsA ds)))))))]) (X2 := [(x.hmk, .inr (2, [.ref x.hba, .ref x.hta, x.vp, .int x.a0])), (x.hta, .inr (1, [.ref x.hty, .int (nI x.k)])), (x.hty, .inl (cB, 256, .inl (x.f))), (x.hba, .inr (1, [.ref x.hby, .int (nI x.kb)])), (x.hby, .inl (cB, 256, .inl (x.fb))), (x.hwr, .inr (3, [.ref x.hrw, .int (nI x.q)])), (x.hrw, .inl (cB, 512, .inl (x.g))), (x.hb1, .inr (1, [.ref x.hy, .int (nI x.ku)])), (x.hy, .inl (cB, 256, .inl (x.fu))), (x.hf, .inr (1, [.ref x.hfy, .int (nI x.kf)])), (x.hfy, .inl (cB, 256, .inl (x.ff))), (x.hc, .inr (1, [.ref x.hcy, .int (nI x.kc)])), (x.hcy, .inl (cB, 256, .inl (x.fc)))]) (pick [0, 1, 2, 3, 4, 5, 6, 7, 8, 9, 10, 11, 12, 13, 14, 15] 16 rfl rfl rfl) (pW_take hi8 hdi))) [1, 2] rfl hk
        | some r =>
          have hkS := krS hc64 hj hrj
          have hrg := krG2 hd q hcj hrj
          obtain ⟨htx, hnp⟩ := hok j r hrj
          by_cases hx9 : a3 < 0 ∨ nI r.np ≤ a3
          · have hst : (sByte σ (nI i) (nI j) a3) = (σ, 0, -1) := by unfold sByte; rw [if_neg hndn, hrg]; show (σ, (0 : Int32), bAt r.S a3) = _; rw [bAt, if_pos (by rw [htx.1]; exact hx9)]
            rw [hst]
            exact kPure (g_pieceByte_F l dC dI h0 (.ref x.hb1) (.ref x.hf) (.ref x.hc) (.ref x.hmk) (.ref x.hwr) (nI σ.nd) σ.stp x.hp (bI σ.go.isSome) x.wl x.hd cD (dsA ds) d.a d.ra cR d.first d.count (rvA d.rv) r.a r.pa cB r.np r.fp r.au r.sm (nI i) (nI j) a3 hdS hc64 hkS hx9) (by decide) ((List.Perm.of_eq hW).trans (km (X1 := [(h0, .inr (0, [.ref x.hd, .ref x.hb1, .ref x.hf, .ref x.hc, .ref x.hmk, .ref x.hwr, .ref x.hp, .int (nI σ.nd), .int σ.stp])), (x.hp, .inr (4, [.int 0, .int (bI σ.go.isSome), .int x.wl])), (x.hd, .inl (cD, 8, .inr (.inr (.inr (.inr ((dsA ds)))))))]) (X2 := [(x.hmk, .inr (2, [.ref x.hba, .ref x.hta, x.vp, .int x.a0])), (x.hta, .inr (1, [.ref x.hty, .int (nI x.k)])), (x.hty, .inl (cB, 256, .inl (x.f))), (x.hba, .inr (1, [.ref x.hby, .int (nI x.kb)])), (x.hby, .inl (cB, 256, .inl (x.fb))), (x.hwr, .inr (3, [.ref x.hrw, .int (nI x.q)])), (x.hrw, .inl (cB, 512, .inl (x.g))), (x.hb1, .inr (1, [.ref x.hy, .int (nI x.ku)])), (x.hy, .inl (cB, 256, .inl (x.fu))), (x.hf, .inr (1, [.ref x.hfy, .int (nI x.kf)])), (x.hfy, .inl (cB, 256, .inl (x.ff))), (x.hc, .inr (1, [.ref x.hcy, .int (nI x.kc)])), (x.hcy, .inl (cB, 256, .inl (x.fc)))]) (pick [0, 1, 2, 3, 4, 5, 6, 7, 8, 9, 10, 11, 12, 13, 14, 15] 16 rfl rfl rfl) ((pW_take hi8 hdi).trans (kdr (rvW_take hj64 hrj))))) [1, 2, 0] rfl hk
          · obtain ⟨xi, rfl, hxi, hcx⟩ := kix hnp hx9
            have hst : (sByte σ (nI i) (nI j) (nI xi)) = (σ, 0, r.fp xi &&& 255) := by unfold sByte; rw [if_neg hndn, hrg]; show (σ, (0 : Int32), bAt r.S (nI xi)) = _; rw [bAt, if_neg (by rw [htx.1]; exact hx9), hcx, htx.2.1 xi hxi]
            rw [hst]
            exact kPure (g_pieceByte_T l dC dI h0 (.ref x.hb1) (.ref x.hf) (.ref x.hc) (.ref x.hmk) (.ref x.hwr) (nI σ.nd) σ.stp x.hp (bI σ.go.isSome) x.wl x.hd cD (dsA ds) d.a d.ra cR d.first d.count (rvA d.rv) r.a r.pa cB r.np r.fp r.au r.sm (nI i) (nI j) xi hdS hc64 hkS hxi hnp) (by decide) ((List.Perm.of_eq hW).trans (km (X1 := [(h0, .inr (0, [.ref x.hd, .ref x.hb1, .ref x.hf, .ref x.hc, .ref x.hmk, .ref x.hwr, .ref x.hp, .int (nI σ.nd), .int σ.stp])), (x.hp, .inr (4, [.int 0, .int (bI σ.go.isSome), .int x.wl])), (x.hd, .inl (cD, 8, .inr (.inr (.inr (.inr ((dsA ds)))))))]) (X2 := [(x.hmk, .inr (2, [.ref x.hba, .ref x.hta, x.vp, .int x.a0])), (x.hta, .inr (1, [.ref x.hty, .int (nI x.k)])), (x.hty, .inl (cB, 256, .inl (x.f))), (x.hba, .inr (1, [.ref x.hby, .int (nI x.kb)])), (x.hby, .inl (cB, 256, .inl (x.fb))), (x.hwr, .inr (3, [.ref x.hrw, .int (nI x.q)])), (x.hrw, .inl (cB, 512, .inl (x.g))), (x.hb1, .inr (1, [.ref x.hy, .int (nI x.ku)])), (x.hy, .inl (cB, 256, .inl (x.fu))), (x.hf, .inr (1, [.ref x.hfy, .int (nI x.kf)])), (x.hfy, .inl (cB, 256, .inl (x.ff))), (x.hc, .inr (1, [.ref x.hcy, .int (nI x.kc)])), (x.hcy, .inl (cB, 256, .inl (x.fc)))]) (pick [0, 1, 2, 3, 4, 5, 6, 7, 8, 9, 10, 11, 12, 13, 14, 15] 16 rfl rfl rfl) ((pW_take hi8 hdi).trans (kdr (rvW_take hj64 hrj))))) [1, 2, 0] rfl hk
set_option maxHeartbeats 4000000 in
set_option maxRecDepth 100000 in
theorem k_damage (l : Launch) (hl9 : l.stackTraces = false) (dC : Nat → ClassId) (dI : Nat → Nat → Nat) (sz : Nat) (h0 : Nat) (cB cD cR : ClassId) (x : KX) (ds : Nat → Option Dc) (σ : Sg) (a1 : Int32) (a2 : Int32) (a3 : Int32) (a4 : Int32) (hs : sOk σ) (hk : kOk σ x ds) : kMet l y_K_damage k_K_damage ex1 (dC, dI) sz h0 cB cD cR x ds [.ref h0, .int a1, .int a2, .int a3, .int a4] (sDamage σ a1 a2 a3 a4) := by
  cases hdn : σ.down with
  | true =>
    have hW : kW h0 cB cD cR x ds = ([(h0, .inr (0, [.ref x.hd, .ref x.hb1, .ref x.hf, .ref x.hc, .ref x.hmk, .ref x.hwr, .ref x.hp, .int x.md, .int x.fs])), (x.hp, .inr (4, [.int 1, .int x.gi, .int x.wl])), (x.hd, .inl (cD, 8, .inr (.inr (.inr (.inr ((dsA ds))))))), (x.hmk, .inr (2, [.ref x.hba, .ref x.hta, x.vp, .int x.a0])), (x.hta, .inr (1, [.ref x.hty, .int (nI x.k)])), (x.hty, .inl (cB, 256, .inl (x.f))), (x.hba, .inr (1, [.ref x.hby, .int (nI x.kb)])), (x.hby, .inl (cB, 256, .inl (x.fb))), (x.hwr, .inr (3, [.ref x.hrw, .int (nI x.q)])), (x.hrw, .inl (cB, 512, .inl (x.g))), (x.hb1, .inr (1, [.ref x.hy, .int (nI x.ku)])), (x.hy, .inl (cB, 256, .inl (x.fu))), (x.hf, .inr (1, [.ref x.hfy, .int (nI x.kf)])), (x.hfy, .inl (cB, 256, .inl (x.ff))), (x.hc, .inr (1, [.ref x.hcy, .int (nI x.kc)])), (x.hcy, .inl (cB, 256, .inl (x.fc)))] : va_W) ++ pW cB cR ds := by unfold kW; rw [hk.dw, hdn]; rfl
    have hst : (sDamage σ a1 a2 a3 a4) = (σ, 1, 0) := by unfold sDamage; rw [if_pos hdn]
    rw [hst]
    exact kDown (x_damage_D l hl9 dC dI sz h0 (.ref x.hd) (.ref x.hb1) (.ref x.hf) (.ref x.hc) (.ref x.hmk) (.ref x.hwr) x.md x.fs x.hp x.gi x.wl a1 a2 a3 a4) (by decide) ((List.Perm.of_eq hW).trans (km0 (X1 := [(h0, .inr (0, [.ref x.hd, .ref x.hb1, .ref x.hf, .ref x.hc, .ref x.hmk, .ref x.hwr, .ref x.hp, .int x.md, .int x.fs])), (x.hp, .inr (4, [.int 1, .int x.gi, .int x.wl]))]) (X2 := [(x.hd, .inl (cD, 8, .inr (.inr (.inr (.inr ((dsA ds))))))), (x.hmk, .inr (2, [.ref x.hba, .ref x.hta, x.vp, .int x.a0])), (x.hta, .inr (1, [.ref x.hty, .int (nI x.k)])), (x.hty, .inl (cB, 256, .inl (x.f))), (x.hba, .inr (1, [.ref x.hby, .int (nI x.kb)])), (x.hby, .inl (cB, 256, .inl (x.fb))), (x.hwr, .inr (3, [.ref x.hrw, .int (nI x.q)])), (x.hrw, .inl (cB, 512, .inl (x.g))), (x.hb1, .inr (1, [.ref x.hy, .int (nI x.ku)])), (x.hy, .inl (cB, 256, .inl (x.fu))), (x.hf, .inr (1, [.ref x.hfy, .int (nI x.kf)])), (x.hfy, .inl (cB, 256, .inl (x.ff))), (x.hc, .inr (1, [.ref x.hcy, .int (nI x.kc)])), (x.hcy, .inl (cB, 256, .inl (x.fc)))]) (pick [0, 1, 2, 3, 4, 5, 6, 7, 8, 9, 10, 11, 12, 13, 14, 15] 16 rfl rfl rfl))) [] rfl hk (by decide) rfl
  | false =>
    obtain ⟨hgi, hgw⟩ := hk.gi hdn
    have hg : ∀ w, σ.go = some w → x.wl = nI w ∧ w < 2 ^ 31 := fun w h => ⟨hgw w h, hs.go w h⟩
    have hd0 : (0 : Int32) = bI σ.down := by rw [hdn]; rfl
    have hndn : ¬ σ.down = true := by rw [hdn]; decide
    have hW : kW h0 cB cD cR x ds = ([(h0, .inr (0, [.ref x.hd, .ref x.hb1, .ref x.hf, .ref x.hc, .ref x.hmk, .ref x.hwr, .ref x.hp, .int (nI σ.nd), .int σ.stp])), (x.hp, .inr (4, [.int 0, .int (bI σ.go.isSome), .int x.wl])), (x.hd, .inl (cD, 8, .inr (.inr (.inr (.inr ((dsA ds))))))), (x.hmk, .inr (2, [.ref x.hba, .ref x.hta, x.vp, .int x.a0])), (x.hta, .inr (1, [.ref x.hty, .int (nI x.k)])), (x.hty, .inl (cB, 256, .inl (x.f))), (x.hba, .inr (1, [.ref x.hby, .int (nI x.kb)])), (x.hby, .inl (cB, 256, .inl (x.fb))), (x.hwr, .inr (3, [.ref x.hrw, .int (nI x.q)])), (x.hrw, .inl (cB, 512, .inl (x.g))), (x.hb1, .inr (1, [.ref x.hy, .int (nI x.ku)])), (x.hy, .inl (cB, 256, .inl (x.fu))), (x.hf, .inr (1, [.ref x.hfy, .int (nI x.kf)])), (x.hfy, .inl (cB, 256, .inl (x.ff))), (x.hc, .inr (1, [.ref x.hcy, .int (nI x.kc)])), (x.hcy, .inl (cB, 256, .inl (x.fc)))] : va_W) ++ pW cB cR ds := by unfold kW; rw [hk.dw, hdn, hgi, hk.md, hk.fs]; rfl
    cases hd : dGet σ.ds a1 with
    | none =>
      have hdN := kdocN hk hd
      have hrg := krGn (a2 := a2) hd
      have hst : (sDamage σ a1 a2 a3 a4) = (σ, 0, 0) := by unfold sDamage; rw [if_neg hndn, hrg]
      rw [hst]
      exact kPure (g_damage_D l dC dI h0 (.ref x.hb1) (.ref x.hf) (.ref x.hc) (.ref x.hmk) (.ref x.hwr) (nI σ.nd) σ.stp x.hp (bI σ.go.isSome) x.wl x.hd cD (dsA ds) a1 a2 a3 a4 hdN) (by decide) ((List.Perm.of_eq hW).trans (km0 (X1 := [(h0, .inr (0, [.ref x.hd, .ref x.hb1, .ref x.hf, .ref x.hc, .ref x.hmk, .ref x.hwr, .ref x.hp, .int (nI σ.nd), .int σ.stp])), (x.hp, .inr (4, [.int 0, .int (bI σ.go.isSome), .int x.wl])), (x.hd, .inl (cD, 8, .inr (.inr (.inr (.inr ((dsA ds)))))))]) (X2 := [(x.hmk, .inr (2, [.ref x.hba, .ref x.hta, x.vp, .int x.a0])), (x.hta, .inr (1, [.ref x.hty, .int (nI x.k)])), (x.hty, .inl (cB, 256, .inl (x.f))), (x.hba, .inr (1, [.ref x.hby, .int (nI x.kb)])), (x.hby, .inl (cB, 256, .inl (x.fb))), (x.hwr, .inr (3, [.ref x.hrw, .int (nI x.q)])), (x.hrw, .inl (cB, 512, .inl (x.g))), (x.hb1, .inr (1, [.ref x.hy, .int (nI x.ku)])), (x.hy, .inl (cB, 256, .inl (x.fu))), (x.hf, .inr (1, [.ref x.hfy, .int (nI x.kf)])), (x.hfy, .inl (cB, 256, .inl (x.ff))), (x.hc, .inr (1, [.ref x.hcy, .int (nI x.kc)])), (x.hcy, .inl (cB, 256, .inl (x.fc)))]) (pick [0, 1, 2, 3, 4, 5, 6, 7, 8, 9, 10, 11, 12, 13, 14, 15] 16 rfl rfl rfl))) [1] rfl hk
    | some p =>
      obtain ⟨i, dm⟩ := p
      obtain ⟨d, hi8, rfl, hdi, rfl, hdS, hc64, hok, hkp, hdm⟩ := kdocS hs hk hd
      have hfd : d.first ≤ d.count := hdm.1
      by_cases q : a2 < 0 ∨ nI d.count ≤ a2
      · have hkN := krN1 q
        have hrg := krG0 hd q
        have hst : (sDamage σ (nI i) a2 a3 a4) = (σ, 0, 0) := by unfold sDamage; rw [if_neg hndn, hrg]
        rw [hst]
        exact kPure (g_damage_N l dC dI h0 (.ref x.hb1) (.ref x.hf) (.ref x.hc) (.ref x.hmk) (.ref x.hwr) (nI σ.nd) σ.stp x.hp (bI σ.go.isSome) x.wl x.hd cD (dsA ds) d.a d.ra cR d.first d.count (rvA d.rv) (nI i) a2 a3 a4 hdS hc64 hkN) (by decide) ((List.Perm.of_eq hW).trans (km (X1 := [(h0, .inr (0, [.ref x.hd, .ref x.hb1, .ref x.hf, .ref x.hc, .ref x.hmk, .ref x.hwr, .ref x.hp, .int (nI σ.nd), .int σ.stp])), (x.hp, .inr (4, [.int 0, .int (bI σ.go.isSome), .int x.wl])), (x.hd, .inl (cD, 8, .inr (.inr (.inr (.inr ((dsA ds)))))))]) (X2 := [(x.hmk, .inr (2, [.ref x.hba, .ref x.hta, x.vp, .int x.a0])), (x.hta, .inr (1, [.ref x.hty, .int (nI x.k)])), (x.hty, .inl (cB, 256, .inl (x.f))), (x.hba, .inr (1, [.ref x.hby, .int (nI x.kb)])), (x.hby, .inl (cB, 256, .inl (x.fb))), (x.hwr, .inr (3, [.ref x.hrw, .int (nI x.q)])), (x.hrw, .inl (cB, 512, .inl (x.g))), (x.hb1, .inr (1, [.ref x.hy, .int (nI x.ku)])), (x.hy, .inl (cB, 256, .inl (x.fu))), (x.hf, .inr (1, [.ref x.hfy, .int (nI x.kf)])), (x.hfy, .inl (cB, 256, .inl (x.ff))), (x.hc, .inr (1, [.ref x.hcy, .int (nI x.kc)])), (x.hcy, .inl (cB, 256, .inl (x.fc)))]) (pick [0, 1, 2, 3, 4, 5, 6, 7, 8, 9, 10, 11, 12, 13, 14, 15] 16 rfl rfl rfl) (pW_take hi8 hdi))) [1, 2] rfl hk
      · obtain ⟨j, rfl, hj, hj64, hcj⟩ := krj hc64 q
        cases hrj : d.rv j with
        | none =>
          have hkN := krN2 hc64 hj hrj
          have hrg := krG1 hd q hcj hrj
          have hst : (sDamage σ (nI i) (nI j) a3 a4) = (σ, 0, 0) := by unfold sDamage; rw [if_neg hndn, hrg]
          rw [hst]
          exact kPure (g_damage_N l dC dI h0 (.ref x.hb1) (.ref x.hf) (.ref x.hc) (.ref x.hmk) (.ref x.hwr) (nI σ.nd) σ.stp x.hp (bI σ.go.isSome) x.wl x.hd cD (dsA ds) d.a d.ra cR d.first d.count (rvA d.rv) (nI i) (nI j) a3 a4 hdS hc64 hkN) (by decide) ((List.Perm.of_eq hW).trans (km (X1 := [(h0, .inr (0, [.ref x.hd, .ref x.hb1, .ref x.hf, .ref x.hc, .ref x.hmk, .ref x.hwr, .ref x.hp, .int (nI σ.nd), .int σ.stp])), (x.hp, .inr (4, [.int 0, .int (bI σ.go.isSome), .int x.wl])), (x.hd, .inl (cD, 8, .inr (.inr (.inr (.inr ((dsA ds)))))))]) (X2 := [(x.hmk, .inr (2, [.ref x.hba, .ref x.hta, x.vp, .int x.a0])), (x.hta, .inr (1, [.ref x.hty, .int (nI x.k)])), (x.hty, .inl (cB, 256, .inl (x.f))), (x.hba, .inr (1, [.ref x.hby, .int (nI x.kb)])), (x.hby, .inl (cB, 256, .inl (x.fb))), (x.hwr, .inr (3, [.ref x.hrw, .int (nI x.q)])), (x.hrw, .inl (cB, 512, .inl (x.g))), (x.hb1, .inr (1, [.ref x.hy, .int (nI x.ku)])), (x.hy, .inl (cB, 256, .inl (x.fu))), (x.hf, .inr (1, [.ref x.hfy, .int (nI x.kf)])), (x.hfy, .inl (cB, 256, .inl (x.ff))), (x.hc, .inr (1, [.ref x.hcy, .int (nI x.kc)])), (x.hcy, .inl (cB, 256, .inl (x.fc)))]) (pick [0, 1, 2, 3, 4, 5, 6, 7, 8, 9, 10, 11, 12, 13, 14, 15] 16 rfl rfl rfl) (pW_take hi8 hdi))) [1, 2] rfl hk
        | some r =>
          have hkS := krS hc64 hj hrj
          have hrg := krG2 hd q hcj hrj
          obtain ⟨htx, hnp⟩ := hok j r hrj
          by_cases hx9 : a3 < 0 ∨ nI r.np ≤ a3
          · have hst : (sDamage σ (nI i) (nI j) a3 a4) = (σ, 0, 0) := by unfold sDamage; rw [if_neg hndn, hrg]; exact if_pos (by show a3 < 0 ∨ nI r.S.length ≤ a3; rw [htx.1]; exact hx9)
            rw [hst]
            exact kPure (g_damage_F l dC dI h0 (.ref x.hb1) (.ref x.hf) (.ref x.hc) (.ref x.hmk) (.ref x.hwr) (nI σ.nd) σ.stp x.hp (bI σ.go.isSome) x.wl x.hd cD (dsA ds) d.a d.ra cR d.first d.count (rvA d.rv) r.a r.pa cB r.np r.fp r.au r.sm (nI i) (nI j) a3 a4 hdS hc64 hkS hx9) (by decide) ((List.Perm.of_eq hW).trans (km (X1 := [(h0, .inr (0, [.ref x.hd, .ref x.hb1, .ref x.hf, .ref x.hc, .ref x.hmk, .ref x.hwr, .ref x.hp, .int (nI σ.nd), .int σ.stp])), (x.hp, .inr (4, [.int 0, .int (bI σ.go.isSome), .int x.wl])), (x.hd, .inl (cD, 8, .inr (.inr (.inr (.inr ((dsA ds)))))))]) (X2 := [(x.hmk, .inr (2, [.ref x.hba, .ref x.hta, x.vp, .int x.a0])), (x.hta, .inr (1, [.ref x.hty, .int (nI x.k)])), (x.hty, .inl (cB, 256, .inl (x.f))), (x.hba, .inr (1, [.ref x.hby, .int (nI x.kb)])), (x.hby, .inl (cB, 256, .inl (x.fb))), (x.hwr, .inr (3, [.ref x.hrw, .int (nI x.q)])), (x.hrw, .inl (cB, 512, .inl (x.g))), (x.hb1, .inr (1, [.ref x.hy, .int (nI x.ku)])), (x.hy, .inl (cB, 256, .inl (x.fu))), (x.hf, .inr (1, [.ref x.hfy, .int (nI x.kf)])), (x.hfy, .inl (cB, 256, .inl (x.ff))), (x.hc, .inr (1, [.ref x.hcy, .int (nI x.kc)])), (x.hcy, .inl (cB, 256, .inl (x.fc)))]) (pick [0, 1, 2, 3, 4, 5, 6, 7, 8, 9, 10, 11, 12, 13, 14, 15] 16 rfl rfl rfl) ((pW_take hi8 hdi).trans (kdr (rvW_take hj64 hrj))))) [1, 2, 0] rfl hk
          · obtain ⟨xi, rfl, hxi, hcx⟩ := kix hnp hx9
            have hst : (sDamage σ (nI i) (nI j) (nI xi) a4) = (sgD σ (va_up σ.ds i (some ⟨d.first, d.count, va_up (dcM d).rv j (some ⟨r.S.set xi (nbb (r.S.getD xi 0 ^^^ a4)), r.au, r.sm⟩)⟩)), 0, 1) := by unfold sDamage; rw [if_neg hndn, hrg]; refine (if_neg (by show ¬ (nI xi < 0 ∨ nI r.S.length ≤ nI xi); rw [htx.1]; exact hx9)).trans ?_; rw [hcx]; rfl
            rw [hst]
            refine kRet (g_damage_T l dC dI sz h0 (.ref x.hb1) (.ref x.hf) (.ref x.hc) (.ref x.hmk) (.ref x.hwr) (nI σ.nd) σ.stp x.hp (bI σ.go.isSome) x.wl x.hd cD (dsA ds) d.a d.ra cR d.first d.count (rvA d.rv) r.a r.pa cB r.np r.fp r.au r.sm (nI i) (nI j) a4 xi hdS hc64 hkS hxi hnp) (by decide) ((List.Perm.of_eq hW).trans (km (X1 := [(h0, .inr (0, [.ref x.hd, .ref x.hb1, .ref x.hf, .ref x.hc, .ref x.hmk, .ref x.hwr, .ref x.hp, .int (nI σ.nd), .int σ.stp])), (x.hp, .inr (4, [.int 0, .int (bI σ.go.isSome), .int x.wl])), (x.hd, .inl (cD, 8, .inr (.inr (.inr (.inr ((dsA ds)))))))]) (X2 := [(x.hmk, .inr (2, [.ref x.hba, .ref x.hta, x.vp, .int x.a0])), (x.hta, .inr (1, [.ref x.hty, .int (nI x.k)])), (x.hty, .inl (cB, 256, .inl (x.f))), (x.hba, .inr (1, [.ref x.hby, .int (nI x.kb)])), (x.hby, .inl (cB, 256, .inl (x.fb))), (x.hwr, .inr (3, [.ref x.hrw, .int (nI x.q)])), (x.hrw, .inl (cB, 512, .inl (x.g))), (x.hb1, .inr (1, [.ref x.hy, .int (nI x.ku)])), (x.hy, .inl (cB, 256, .inl (x.fu))), (x.hf, .inr (1, [.ref x.hfy, .int (nI x.kf)])), (x.hfy, .inl (cB, 256, .inl (x.ff))), (x.hc, .inr (1, [.ref x.hcy, .int (nI x.kc)])), (x.hcy, .inl (cB, 256, .inl (x.fc)))]) (pick [0, 1, 2, 3, 4, 5, 6, 7, 8, 9, 10, 11, 12, 13, 14, 15] 16 rfl rfl rfl) ((pW_take hi8 hdi).trans (kdr (rvW_take hj64 hrj))))) [1, 2, 0] rfl (fun r h => ⟨rfl, h⟩) (fun t hb fr => ?_)
            exact ⟨(x.hd, x.hb1, x.hy, x.hf, x.hfy, x.hc, x.hcy, x.hmk, x.hta, x.hty, x.hba, x.hby, x.hwr, x.hrw, x.hp, 0, (bI σ.go.isSome), x.wl, (nI σ.nd), σ.stp, x.a0, x.vp, x.k, x.kb, x.q, x.ku, x.kf, x.kc, x.f, x.fb, x.g, x.fu, x.ff, x.fc), (va_up ds i (some (d.a, d.ra, d.first, d.count, va_up d.rv j (some (r.a, r.pa, r.np, upd r.fp xi (nbb (r.fp xi ^^^ a4)), r.S.set xi (nbb (r.S.getD xi 0 ^^^ a4)), r.au, r.sm))))), (kOk.mk hd0 (fun _ => ⟨rfl, hgw⟩) rfl rfl (kds hk.ds (dcM_up d d.count j (r.a, r.pa, r.np, upd r.fp xi (nbb (r.fp xi ^^^ a4)), r.S.set xi (nbb (r.S.getD xi 0 ^^^ a4)), r.au, r.sm))) (kok_up hk.ok ⟨hc64, rvOk_up hok ⟨tx_set htx hxi, hnp⟩⟩) (kpt_up hk.kp (kpt_upr hkp)) hk.bu hk.fe hk.mt hk.mb hk.cm), fr _ _ _ hb (kz ((List.Perm.of_eq (show kW h0 cB cD cR (x.hd, x.hb1, x.hy, x.hf, x.hfy, x.hc, x.hcy, x.hmk, x.hta, x.hty, x.hba, x.hby, x.hwr, x.hrw, x.hp, 0, (bI σ.go.isSome), x.wl, (nI σ.nd), σ.stp, x.a0, x.vp, x.k, x.kb, x.q, x.ku, x.kf, x.kc, x.f, x.fb, x.g, x.fu, x.ff, x.fc) (va_up ds i (some (d.a, d.ra, d.first, d.count, va_up d.rv j (some (r.a, r.pa, r.np, upd r.fp xi (nbb (r.fp xi ^^^ a4)), r.S.set xi (nbb (r.S.getD xi 0 ^^^ a4)), r.au, r.sm))))) = ([(h0, .inr (0, [.ref x.hd, .ref x.hb1, .ref x.hf, .ref x.hc, .ref x.hmk, .ref x.hwr, .ref x.hp, .int (nI σ.nd), .int σ.stp])), (x.hp, .inr (4, [.int 0, .int (bI σ.go.isSome), .int x.wl])), (x.hd, .inl (cD, 8, .inr (.inr (.inr (.inr ((dsA ds))))))), (x.hmk, .inr (2, [.ref x.hba, .ref x.hta, x.vp, .int x.a0])), (x.hta, .inr (1, [.ref x.hty, .int (nI x.k)])), (x.hty, .inl (cB, 256, .inl (x.f))), (x.hba, .inr (1, [.ref x.hby, .int (nI x.kb)])), (x.hby, .inl (cB, 256, .inl (x.fb))), (x.hwr, .inr (3, [.ref x.hrw, .int (nI x.q)])), (x.hrw, .inl (cB, 512, .inl (x.g))), (x.hb1, .inr (1, [.ref x.hy, .int (nI x.ku)])), (x.hy, .inl (cB, 256, .inl (x.fu))), (x.hf, .inr (1, [.ref x.hfy, .int (nI x.kf)])), (x.hfy, .inl (cB, 256, .inl (x.ff))), (x.hc, .inr (1, [.ref x.hcy, .int (nI x.kc)])), (x.hcy, .inl (cB, 256, .inl (x.fc)))] : va_W) ++ pW cB cR (va_up ds i (some (d.a, d.ra, d.first, d.count, va_up d.rv j (some (r.a, r.pa, r.np, upd r.fp xi (nbb (r.fp xi ^^^ a4)), r.S.set xi (nbb (r.S.getD xi 0 ^^^ a4)), r.au, r.sm))))) by unfold kW; rw [dsA_keep (d2 := (d.a, d.ra, d.first, d.count, va_up d.rv j (some (r.a, r.pa, r.np, upd r.fp xi (nbb (r.fp xi ^^^ a4)), r.S.set xi (nbb (r.S.getD xi 0 ^^^ a4)), r.au, r.sm)))) hdi rfl]; first | done | rfl)).trans (km (X1 := [(h0, .inr (0, [.ref x.hd, .ref x.hb1, .ref x.hf, .ref x.hc, .ref x.hmk, .ref x.hwr, .ref x.hp, .int (nI σ.nd), .int σ.stp])), (x.hp, .inr (4, [.int 0, .int (bI σ.go.isSome), .int x.wl])), (x.hd, .inl (cD, 8, .inr (.inr (.inr (.inr ((dsA ds)))))))]) (X2 := [(x.hmk, .inr (2, [.ref x.hba, .ref x.hta, x.vp, .int x.a0])), (x.hta, .inr (1, [.ref x.hty, .int (nI x.k)])), (x.hty, .inl (cB, 256, .inl (x.f))), (x.hba, .inr (1, [.ref x.hby, .int (nI x.kb)])), (x.hby, .inl (cB, 256, .inl (x.fb))), (x.hwr, .inr (3, [.ref x.hrw, .int (nI x.q)])), (x.hrw, .inl (cB, 512, .inl (x.g))), (x.hb1, .inr (1, [.ref x.hy, .int (nI x.ku)])), (x.hy, .inl (cB, 256, .inl (x.fu))), (x.hf, .inr (1, [.ref x.hfy, .int (nI x.kf)])), (x.hfy, .inl (cB, 256, .inl (x.ff))), (x.hc, .inr (1, [.ref x.hcy, .int (nI x.kc)])), (x.hcy, .inl (cB, 256, .inl (x.fc)))]) (pick [0, 1, 2, 3, 4, 5, 6, 7, 8, 9, 10, 11, 12, 13, 14, 15] 16 rfl rfl rfl) (kdm (r2 := (r.a, r.pa, r.np, upd r.fp xi (nbb (r.fp xi ^^^ a4)), r.S.set xi (nbb (r.S.getD xi 0 ^^^ a4)), r.au, r.sm)) hi8 hj64 hrj rfl))))⟩
set_option maxHeartbeats 4000000 in
set_option maxRecDepth 100000 in
theorem k_freeBlocks (l : Launch) (hl9 : l.stackTraces = false) (dC : Nat → ClassId) (dI : Nat → Nat → Nat) (sz : Nat) (h0 : Nat) (cB cD cR : ClassId) (x : KX) (ds : Nat → Option Dc) (σ : Sg) (hs : sOk σ) (hk : kOk σ x ds) : kMet l y_K_freeBlocks k_K_freeBlocks ex1 (dC, dI) sz h0 cB cD cR x ds [.ref h0] (sFree σ) := by
  cases hdn : σ.down with
  | true =>
    have hW : kW h0 cB cD cR x ds = ([(h0, .inr (0, [.ref x.hd, .ref x.hb1, .ref x.hf, .ref x.hc, .ref x.hmk, .ref x.hwr, .ref x.hp, .int x.md, .int x.fs])), (x.hp, .inr (4, [.int 1, .int x.gi, .int x.wl])), (x.hd, .inl (cD, 8, .inr (.inr (.inr (.inr ((dsA ds))))))), (x.hmk, .inr (2, [.ref x.hba, .ref x.hta, x.vp, .int x.a0])), (x.hta, .inr (1, [.ref x.hty, .int (nI x.k)])), (x.hty, .inl (cB, 256, .inl (x.f))), (x.hba, .inr (1, [.ref x.hby, .int (nI x.kb)])), (x.hby, .inl (cB, 256, .inl (x.fb))), (x.hwr, .inr (3, [.ref x.hrw, .int (nI x.q)])), (x.hrw, .inl (cB, 512, .inl (x.g))), (x.hb1, .inr (1, [.ref x.hy, .int (nI x.ku)])), (x.hy, .inl (cB, 256, .inl (x.fu))), (x.hf, .inr (1, [.ref x.hfy, .int (nI x.kf)])), (x.hfy, .inl (cB, 256, .inl (x.ff))), (x.hc, .inr (1, [.ref x.hcy, .int (nI x.kc)])), (x.hcy, .inl (cB, 256, .inl (x.fc)))] : va_W) ++ pW cB cR ds := by unfold kW; rw [hk.dw, hdn]; rfl
    have hst : (sFree σ) = (σ, 1, 0) := by unfold sFree; rw [if_pos hdn]
    rw [hst]
    exact kDown (x_freeBlocks_D l hl9 dC dI sz h0 (.ref x.hd) (.ref x.hb1) (.ref x.hf) (.ref x.hc) (.ref x.hmk) (.ref x.hwr) x.md x.fs x.hp x.gi x.wl) (by decide) ((List.Perm.of_eq hW).trans (km0 (X1 := [(h0, .inr (0, [.ref x.hd, .ref x.hb1, .ref x.hf, .ref x.hc, .ref x.hmk, .ref x.hwr, .ref x.hp, .int x.md, .int x.fs])), (x.hp, .inr (4, [.int 1, .int x.gi, .int x.wl]))]) (X2 := [(x.hd, .inl (cD, 8, .inr (.inr (.inr (.inr ((dsA ds))))))), (x.hmk, .inr (2, [.ref x.hba, .ref x.hta, x.vp, .int x.a0])), (x.hta, .inr (1, [.ref x.hty, .int (nI x.k)])), (x.hty, .inl (cB, 256, .inl (x.f))), (x.hba, .inr (1, [.ref x.hby, .int (nI x.kb)])), (x.hby, .inl (cB, 256, .inl (x.fb))), (x.hwr, .inr (3, [.ref x.hrw, .int (nI x.q)])), (x.hrw, .inl (cB, 512, .inl (x.g))), (x.hb1, .inr (1, [.ref x.hy, .int (nI x.ku)])), (x.hy, .inl (cB, 256, .inl (x.fu))), (x.hf, .inr (1, [.ref x.hfy, .int (nI x.kf)])), (x.hfy, .inl (cB, 256, .inl (x.ff))), (x.hc, .inr (1, [.ref x.hcy, .int (nI x.kc)])), (x.hcy, .inl (cB, 256, .inl (x.fc)))]) (pick [0, 1, 2, 3, 4, 5, 6, 7, 8, 9, 10, 11, 12, 13, 14, 15] 16 rfl rfl rfl))) [] rfl hk (by decide) rfl
  | false =>
    obtain ⟨hgi, hgw⟩ := hk.gi hdn
    have hg : ∀ w, σ.go = some w → x.wl = nI w ∧ w < 2 ^ 31 := fun w h => ⟨hgw w h, hs.go w h⟩
    have hd0 : (0 : Int32) = bI σ.down := by rw [hdn]; rfl
    have hndn : ¬ σ.down = true := by rw [hdn]; decide
    have hW : kW h0 cB cD cR x ds = ([(h0, .inr (0, [.ref x.hd, .ref x.hb1, .ref x.hf, .ref x.hc, .ref x.hmk, .ref x.hwr, .ref x.hp, .int (nI σ.nd), .int σ.stp])), (x.hp, .inr (4, [.int 0, .int (bI σ.go.isSome), .int x.wl])), (x.hd, .inl (cD, 8, .inr (.inr (.inr (.inr ((dsA ds))))))), (x.hmk, .inr (2, [.ref x.hba, .ref x.hta, x.vp, .int x.a0])), (x.hta, .inr (1, [.ref x.hty, .int (nI x.k)])), (x.hty, .inl (cB, 256, .inl (x.f))), (x.hba, .inr (1, [.ref x.hby, .int (nI x.kb)])), (x.hby, .inl (cB, 256, .inl (x.fb))), (x.hwr, .inr (3, [.ref x.hrw, .int (nI x.q)])), (x.hrw, .inl (cB, 512, .inl (x.g))), (x.hb1, .inr (1, [.ref x.hy, .int (nI x.ku)])), (x.hy, .inl (cB, 256, .inl (x.fu))), (x.hf, .inr (1, [.ref x.hfy, .int (nI x.kf)])), (x.hfy, .inl (cB, 256, .inl (x.ff))), (x.hc, .inr (1, [.ref x.hcy, .int (nI x.kc)])), (x.hcy, .inl (cB, 256, .inl (x.fc)))] : va_W) ++ pW cB cR ds := by unfold kW; rw [hk.dw, hdn, hgi, hk.md, hk.fs]; rfl
    have hus : cfr ds 8 ≤ 512 := by rw [← kus hk]; exact hs.us
    have hst : (sFree σ) = (σ, 0, nI (512 - cfr ds 8)) := by unfold sFree; rw [if_neg hndn, kus hk]
    rw [hst]
    exact kPure (g_freeBlocks l dC dI h0 (.ref x.hb1) (.ref x.hf) (.ref x.hc) (.ref x.hmk) (.ref x.hwr) (nI σ.nd) σ.stp x.hp (bI σ.go.isSome) x.wl x.hd cD cR cB ds (pW cB cR ds) plD_of hk.ok hus) (by decide) ((List.Perm.of_eq hW).trans (kmp0 (X1 := [(h0, .inr (0, [.ref x.hd, .ref x.hb1, .ref x.hf, .ref x.hc, .ref x.hmk, .ref x.hwr, .ref x.hp, .int (nI σ.nd), .int σ.stp])), (x.hp, .inr (4, [.int 0, .int (bI σ.go.isSome), .int x.wl])), (x.hd, .inl (cD, 8, .inr (.inr (.inr (.inr ((dsA ds)))))))]) (X2 := [(x.hmk, .inr (2, [.ref x.hba, .ref x.hta, x.vp, .int x.a0])), (x.hta, .inr (1, [.ref x.hty, .int (nI x.k)])), (x.hty, .inl (cB, 256, .inl (x.f))), (x.hba, .inr (1, [.ref x.hby, .int (nI x.kb)])), (x.hby, .inl (cB, 256, .inl (x.fb))), (x.hwr, .inr (3, [.ref x.hrw, .int (nI x.q)])), (x.hrw, .inl (cB, 512, .inl (x.g))), (x.hb1, .inr (1, [.ref x.hy, .int (nI x.ku)])), (x.hy, .inl (cB, 256, .inl (x.fu))), (x.hf, .inr (1, [.ref x.hfy, .int (nI x.kf)])), (x.hfy, .inl (cB, 256, .inl (x.ff))), (x.hc, .inr (1, [.ref x.hcy, .int (nI x.kc)])), (x.hcy, .inl (cB, 256, .inl (x.fc)))]) (pick [0, 1, 2, 3, 4, 5, 6, 7, 8, 9, 10, 11, 12, 13, 14, 15] 16 rfl rfl rfl))) [1, 2, 0] rfl hk
set_option maxHeartbeats 4000000 in
set_option maxRecDepth 100000 in
theorem k_fetch (l : Launch) (hl9 : l.stackTraces = false) (dC : Nat → ClassId) (dI : Nat → Nat → Nat) (sz : Nat) (h0 : Nat) (cB cD cR : ClassId) (x : KX) (ds : Nat → Option Dc) (σ : Sg) (a1 : Int32) (a2 : Int32) (hs : sOk σ) (hk : kOk σ x ds) : kMet l y_K_fetch k_K_fetch ex1 (dC, dI) sz h0 cB cD cR x ds [.ref h0, .int a1, .int a2] (sFetch σ a1 a2) := by
  cases hdn : σ.down with
  | true =>
    have hW : kW h0 cB cD cR x ds = ([(h0, .inr (0, [.ref x.hd, .ref x.hb1, .ref x.hf, .ref x.hc, .ref x.hmk, .ref x.hwr, .ref x.hp, .int x.md, .int x.fs])), (x.hp, .inr (4, [.int 1, .int x.gi, .int x.wl])), (x.hd, .inl (cD, 8, .inr (.inr (.inr (.inr ((dsA ds))))))), (x.hmk, .inr (2, [.ref x.hba, .ref x.hta, x.vp, .int x.a0])), (x.hta, .inr (1, [.ref x.hty, .int (nI x.k)])), (x.hty, .inl (cB, 256, .inl (x.f))), (x.hba, .inr (1, [.ref x.hby, .int (nI x.kb)])), (x.hby, .inl (cB, 256, .inl (x.fb))), (x.hwr, .inr (3, [.ref x.hrw, .int (nI x.q)])), (x.hrw, .inl (cB, 512, .inl (x.g))), (x.hb1, .inr (1, [.ref x.hy, .int (nI x.ku)])), (x.hy, .inl (cB, 256, .inl (x.fu))), (x.hf, .inr (1, [.ref x.hfy, .int (nI x.kf)])), (x.hfy, .inl (cB, 256, .inl (x.ff))), (x.hc, .inr (1, [.ref x.hcy, .int (nI x.kc)])), (x.hcy, .inl (cB, 256, .inl (x.fc)))] : va_W) ++ pW cB cR ds := by unfold kW; rw [hk.dw, hdn]; rfl
    have hst : (sFetch σ a1 a2) = (σ, 1, 0) := by unfold sFetch; rw [if_pos hdn]
    rw [hst]
    exact kDown (x_fetch_D l hl9 dC dI sz h0 (.ref x.hd) (.ref x.hb1) (.ref x.hf) (.ref x.hc) (.ref x.hmk) (.ref x.hwr) x.md x.fs x.hp x.gi x.wl a1 a2) (by decide) ((List.Perm.of_eq hW).trans (km0 (X1 := [(h0, .inr (0, [.ref x.hd, .ref x.hb1, .ref x.hf, .ref x.hc, .ref x.hmk, .ref x.hwr, .ref x.hp, .int x.md, .int x.fs])), (x.hp, .inr (4, [.int 1, .int x.gi, .int x.wl]))]) (X2 := [(x.hd, .inl (cD, 8, .inr (.inr (.inr (.inr ((dsA ds))))))), (x.hmk, .inr (2, [.ref x.hba, .ref x.hta, x.vp, .int x.a0])), (x.hta, .inr (1, [.ref x.hty, .int (nI x.k)])), (x.hty, .inl (cB, 256, .inl (x.f))), (x.hba, .inr (1, [.ref x.hby, .int (nI x.kb)])), (x.hby, .inl (cB, 256, .inl (x.fb))), (x.hwr, .inr (3, [.ref x.hrw, .int (nI x.q)])), (x.hrw, .inl (cB, 512, .inl (x.g))), (x.hb1, .inr (1, [.ref x.hy, .int (nI x.ku)])), (x.hy, .inl (cB, 256, .inl (x.fu))), (x.hf, .inr (1, [.ref x.hfy, .int (nI x.kf)])), (x.hfy, .inl (cB, 256, .inl (x.ff))), (x.hc, .inr (1, [.ref x.hcy, .int (nI x.kc)])), (x.hcy, .inl (cB, 256, .inl (x.fc)))]) (pick [0, 1, 2, 3, 4, 5, 6, 7, 8, 9, 10, 11, 12, 13, 14, 15] 16 rfl rfl rfl))) [] rfl hk (by decide) rfl
  | false =>
    obtain ⟨hgi, hgw⟩ := hk.gi hdn
    have hg : ∀ w, σ.go = some w → x.wl = nI w ∧ w < 2 ^ 31 := fun w h => ⟨hgw w h, hs.go w h⟩
    have hd0 : (0 : Int32) = bI σ.down := by rw [hdn]; rfl
    have hndn : ¬ σ.down = true := by rw [hdn]; decide
    have hW : kW h0 cB cD cR x ds = ([(h0, .inr (0, [.ref x.hd, .ref x.hb1, .ref x.hf, .ref x.hc, .ref x.hmk, .ref x.hwr, .ref x.hp, .int (nI σ.nd), .int σ.stp])), (x.hp, .inr (4, [.int 0, .int (bI σ.go.isSome), .int x.wl])), (x.hd, .inl (cD, 8, .inr (.inr (.inr (.inr ((dsA ds))))))), (x.hmk, .inr (2, [.ref x.hba, .ref x.hta, x.vp, .int x.a0])), (x.hta, .inr (1, [.ref x.hty, .int (nI x.k)])), (x.hty, .inl (cB, 256, .inl (x.f))), (x.hba, .inr (1, [.ref x.hby, .int (nI x.kb)])), (x.hby, .inl (cB, 256, .inl (x.fb))), (x.hwr, .inr (3, [.ref x.hrw, .int (nI x.q)])), (x.hrw, .inl (cB, 512, .inl (x.g))), (x.hb1, .inr (1, [.ref x.hy, .int (nI x.ku)])), (x.hy, .inl (cB, 256, .inl (x.fu))), (x.hf, .inr (1, [.ref x.hfy, .int (nI x.kf)])), (x.hfy, .inl (cB, 256, .inl (x.ff))), (x.hc, .inr (1, [.ref x.hcy, .int (nI x.kc)])), (x.hcy, .inl (cB, 256, .inl (x.fc)))] : va_W) ++ pW cB cR ds := by unfold kW; rw [hk.dw, hdn, hgi, hk.md, hk.fs]; rfl
    cases hd : dGet σ.ds a1 with
    | none =>
      have hdN := kdocN hk hd
      have hst : (sFetch σ a1 a2) = (σ, 0, -1) := by unfold sFetch; rw [if_neg hndn, hd]
      rw [hst]
      exact kPure (g_fetch_N l dC dI h0 (.ref x.hb1) (.ref x.hf) (.ref x.hc) (.ref x.hmk) (.ref x.hwr) (nI σ.nd) σ.stp x.hp (bI σ.go.isSome) x.wl x.hd cD (dsA ds) a1 a2 hdN) (by decide) ((List.Perm.of_eq hW).trans (km0 (X1 := [(h0, .inr (0, [.ref x.hd, .ref x.hb1, .ref x.hf, .ref x.hc, .ref x.hmk, .ref x.hwr, .ref x.hp, .int (nI σ.nd), .int σ.stp])), (x.hp, .inr (4, [.int 0, .int (bI σ.go.isSome), .int x.wl])), (x.hd, .inl (cD, 8, .inr (.inr (.inr (.inr ((dsA ds)))))))]) (X2 := [(x.hmk, .inr (2, [.ref x.hba, .ref x.hta, x.vp, .int x.a0])), (x.hta, .inr (1, [.ref x.hty, .int (nI x.k)])), (x.hty, .inl (cB, 256, .inl (x.f))), (x.hba, .inr (1, [.ref x.hby, .int (nI x.kb)])), (x.hby, .inl (cB, 256, .inl (x.fb))), (x.hwr, .inr (3, [.ref x.hrw, .int (nI x.q)])), (x.hrw, .inl (cB, 512, .inl (x.g))), (x.hb1, .inr (1, [.ref x.hy, .int (nI x.ku)])), (x.hy, .inl (cB, 256, .inl (x.fu))), (x.hf, .inr (1, [.ref x.hfy, .int (nI x.kf)])), (x.hfy, .inl (cB, 256, .inl (x.ff))), (x.hc, .inr (1, [.ref x.hcy, .int (nI x.kc)])), (x.hcy, .inl (cB, 256, .inl (x.fc)))]) (pick [0, 1, 2, 3, 4, 5, 6, 7, 8, 9, 10, 11, 12, 13, 14, 15] 16 rfl rfl rfl))) [1] rfl hk
    | some p =>
      obtain ⟨i, dm⟩ := p
      obtain ⟨d, hi8, rfl, hdi, rfl, hdS, hc64, hok, hkp, hdm⟩ := kdocS hs hk hd
      have hfd : d.first ≤ d.count := hdm.1
      by_cases hna : a2 < nI d.first ∨ nI d.count ≤ a2
      · have hst : (sFetch σ (nI i) a2) = (σ, 0, -1) := by unfold sFetch; rw [if_neg hndn, hd]; exact if_pos hna
        rw [hst]
        exact kPure (g_fetch_A l dC dI h0 (.ref x.hb1) (.ref x.hf) (.ref x.hc) (.ref x.hmk) (.ref x.hwr) (nI σ.nd) σ.stp x.hp (bI σ.go.isSome) x.wl x.hd cD (dsA ds) d.a d.ra cR d.first d.count (rvA d.rv) (nI i) a2 hdS hc64 hna) (by decide) ((List.Perm.of_eq hW).trans (km (X1 := [(h0, .inr (0, [.ref x.hd, .ref x.hb1, .ref x.hf, .ref x.hc, .ref x.hmk, .ref x.hwr, .ref x.hp, .int (nI σ.nd), .int σ.stp])), (x.hp, .inr (4, [.int 0, .int (bI σ.go.isSome), .int x.wl])), (x.hd, .inl (cD, 8, .inr (.inr (.inr (.inr ((dsA ds)))))))]) (X2 := [(x.hmk, .inr (2, [.ref x.hba, .ref x.hta, x.vp, .int x.a0])), (x.hta, .inr (1, [.ref x.hty, .int (nI x.k)])), (x.hty, .inl (cB, 256, .inl (x.f))), (x.hba, .inr (1, [.ref x.hby, .int (nI x.kb)])), (x.hby, .inl (cB, 256, .inl (x.fb))), (x.hwr, .inr (3, [.ref x.hrw, .int (nI x.q)])), (x.hrw, .inl (cB, 512, .inl (x.g))), (x.hb1, .inr (1, [.ref x.hy, .int (nI x.ku)])), (x.hy, .inl (cB, 256, .inl (x.fu))), (x.hf, .inr (1, [.ref x.hfy, .int (nI x.kf)])), (x.hfy, .inl (cB, 256, .inl (x.ff))), (x.hc, .inr (1, [.ref x.hcy, .int (nI x.kc)])), (x.hcy, .inl (cB, 256, .inl (x.fc)))]) (pick [0, 1, 2, 3, 4, 5, 6, 7, 8, 9, 10, 11, 12, 13, 14, 15] 16 rfl rfl rfl) (pW_take hi8 hdi))) [1, 2] rfl hk
      · obtain ⟨r9, rfl, ha1, ha2, hc9⟩ := kask hfd hc64 hna
        obtain ⟨T, hmt, hmt2⟩ := hk.mt
        obtain ⟨Bs, hmb, hmb2⟩ := hk.mb
        cases hag : agn (rvP d.rv) r9 with
        | none =>
          have hst : (sFetch σ (nI i) (nI r9)) = (σ, 0, -2) := by unfold sFetch; rw [if_neg hndn, hd]; refine (if_neg hna).trans ?_; rw [dmP_M, hc9, hag]
          rw [hst]
          refine kRet (g_fetch_B l dC dI sz h0 (.ref x.hb1) (.ref x.hc) (.ref x.hwr) (nI σ.nd) σ.stp x.hp (bI σ.go.isSome) x.wl x.hd cD (dsA ds) x.hmk x.hta x.hty x.hba x.hby cB x.k x.f x.kb x.fb x.vp x.a0 T Bs x.hf x.hfy x.kf x.ff σ.fet d.a d.ra cR d.first d.count d.rv (rvW cB d.rv ++ pW cB cR (va_up ds i none)) (nI i) r9 hmt hmt2 hmb hmb2 hk.fe.1 hdS hc64 ha1 ha2 plR_of hok hag) (by decide) ((List.Perm.of_eq hW).trans (kmp (X1 := [(h0, .inr (0, [.ref x.hd, .ref x.hb1, .ref x.hf, .ref x.hc, .ref x.hmk, .ref x.hwr, .ref x.hp, .int (nI σ.nd), .int σ.stp])), (x.hp, .inr (4, [.int 0, .int (bI σ.go.isSome), .int x.wl])), (x.hd, .inl (cD, 8, .inr (.inr (.inr (.inr ((dsA ds))))))), (x.hmk, .inr (2, [.ref x.hba, .ref x.hta, x.vp, .int x.a0])), (x.hta, .inr (1, [.ref x.hty, .int (nI x.k)])), (x.hty, .inl (cB, 256, .inl (x.f))), (x.hba, .inr (1, [.ref x.hby, .int (nI x.kb)])), (x.hby, .inl (cB, 256, .inl (x.fb))), (x.hf, .inr (1, [.ref x.hfy, .int (nI x.kf)])), (x.hfy, .inl (cB, 256, .inl (x.ff)))]) (X2 := [(x.hwr, .inr (3, [.ref x.hrw, .int (nI x.q)])), (x.hrw, .inl (cB, 512, .inl (x.g))), (x.hb1, .inr (1, [.ref x.hy, .int (nI x.ku)])), (x.hy, .inl (cB, 256, .inl (x.fu))), (x.hc, .inr (1, [.ref x.hcy, .int (nI x.kc)])), (x.hcy, .inl (cB, 256, .inl (x.fc)))]) (pick [0, 1, 2, 3, 4, 5, 6, 7, 12, 13, 8, 9, 10, 11, 14, 15] 16 rfl rfl rfl) (pW_take hi8 hdi))) [1, 2, 0] rfl (fun r h => ⟨rfl, h⟩) (fun t hb fr => ?_)
          obtain ⟨hta2, hty2, hba2, hby2, k2, f2, kb2, fb2, vp2, a2x, B2, T2, hu, hat⟩ := hb
          exact ⟨(x.hd, x.hb1, x.hy, x.hf, x.hfy, x.hc, x.hcy, x.hmk, hta2, hty2, hba2, hby2, x.hwr, x.hrw, x.hp, 0, (bI σ.go.isSome), x.wl, (nI σ.nd), σ.stp, a2x, vp2, k2, kb2, x.q, x.ku, x.kf, x.kc, f2, fb2, x.g, x.fu, x.ff, x.fc), ds, (kOk.mk hd0 (fun _ => ⟨rfl, hgw⟩) rfl rfl hk.ds hk.ok hk.kp hk.bu hk.fe ⟨T2, hu.1⟩ ⟨B2, hu.2⟩ hk.cm), fr _ _ _ hat (kz ((List.Perm.of_eq (rfl : kW h0 cB cD cR (x.hd, x.hb1, x.hy, x.hf, x.hfy, x.hc, x.hcy, x.hmk, hta2, hty2, hba2, hby2, x.hwr, x.hrw, x.hp, 0, (bI σ.go.isSome), x.wl, (nI σ.nd), σ.stp, a2x, vp2, k2, kb2, x.q, x.ku, x.kf, x.kc, f2, fb2, x.g, x.fu, x.ff, x.fc) ds = ([(h0, .inr (0, [.ref x.hd, .ref x.hb1, .ref x.hf, .ref x.hc, .ref x.hmk, .ref x.hwr, .ref x.hp, .int (nI σ.nd), .int σ.stp])), (x.hp, .inr (4, [.int 0, .int (bI σ.go.isSome), .int x.wl])), (x.hd, .inl (cD, 8, .inr (.inr (.inr (.inr ((dsA ds))))))), (x.hmk, .inr (2, [.ref hba2, .ref hta2, vp2, .int a2x])), (hta2, .inr (1, [.ref hty2, .int (nI k2)])), (hty2, .inl (cB, 256, .inl (f2))), (hba2, .inr (1, [.ref hby2, .int (nI kb2)])), (hby2, .inl (cB, 256, .inl (fb2))), (x.hwr, .inr (3, [.ref x.hrw, .int (nI x.q)])), (x.hrw, .inl (cB, 512, .inl (x.g))), (x.hb1, .inr (1, [.ref x.hy, .int (nI x.ku)])), (x.hy, .inl (cB, 256, .inl (x.fu))), (x.hf, .inr (1, [.ref x.hfy, .int (nI x.kf)])), (x.hfy, .inl (cB, 256, .inl (x.ff))), (x.hc, .inr (1, [.ref x.hcy, .int (nI x.kc)])), (x.hcy, .inl (cB, 256, .inl (x.fc)))] : va_W) ++ pW cB cR ds)).trans (kmp (X1 := [(h0, .inr (0, [.ref x.hd, .ref x.hb1, .ref x.hf, .ref x.hc, .ref x.hmk, .ref x.hwr, .ref x.hp, .int (nI σ.nd), .int σ.stp])), (x.hp, .inr (4, [.int 0, .int (bI σ.go.isSome), .int x.wl])), (x.hd, .inl (cD, 8, .inr (.inr (.inr (.inr ((dsA ds))))))), (x.hmk, .inr (2, [.ref hba2, .ref hta2, vp2, .int a2x])), (hta2, .inr (1, [.ref hty2, .int (nI k2)])), (hty2, .inl (cB, 256, .inl (f2))), (hba2, .inr (1, [.ref hby2, .int (nI kb2)])), (hby2, .inl (cB, 256, .inl (fb2))), (x.hf, .inr (1, [.ref x.hfy, .int (nI x.kf)])), (x.hfy, .inl (cB, 256, .inl (x.ff)))]) (X2 := [(x.hwr, .inr (3, [.ref x.hrw, .int (nI x.q)])), (x.hrw, .inl (cB, 512, .inl (x.g))), (x.hb1, .inr (1, [.ref x.hy, .int (nI x.ku)])), (x.hy, .inl (cB, 256, .inl (x.fu))), (x.hc, .inr (1, [.ref x.hcy, .int (nI x.kc)])), (x.hcy, .inl (cB, 256, .inl (x.fc)))]) (pick [0, 1, 2, 3, 4, 5, 6, 7, 12, 13, 8, 9, 10, 11, 14, 15] 16 rfl rfl rfl) (pW_take hi8 hdi))))⟩
        | some Y =>
          have hst : (sFetch σ (nI i) (nI r9)) = (sgF σ Y (nI (bct 6 r9)), 0, nI Y.length) := by unfold sFetch; rw [if_neg hndn, hd]; refine (if_neg hna).trans ?_; rw [dmP_M, hc9, hag]
          rw [hst]
          refine kRet (g_fetch_T l dC dI sz h0 (.ref x.hb1) (.ref x.hc) (.ref x.hwr) (nI σ.nd) σ.stp x.hp (bI σ.go.isSome) x.wl x.hd cD (dsA ds) x.hmk x.hta x.hty x.hba x.hby cB x.k x.f x.kb x.fb x.vp x.a0 T Bs x.hf x.hfy x.kf x.ff σ.fet d.a d.ra cR d.first d.count d.rv (rvW cB d.rv ++ pW cB cR (va_up ds i none)) (nI i) r9 Y hmt hmt2 hmb hmb2 hk.fe.1 hdS hc64 ha1 ha2 plR_of hok hag) (by decide) ((List.Perm.of_eq hW).trans (kmp (X1 := [(h0, .inr (0, [.ref x.hd, .ref x.hb1, .ref x.hf, .ref x.hc, .ref x.hmk, .ref x.hwr, .ref x.hp, .int (nI σ.nd), .int σ.stp])), (x.hp, .inr (4, [.int 0, .int (bI σ.go.isSome), .int x.wl])), (x.hd, .inl (cD, 8, .inr (.inr (.inr (.inr ((dsA ds))))))), (x.hmk, .inr (2, [.ref x.hba, .ref x.hta, x.vp, .int x.a0])), (x.hta, .inr (1, [.ref x.hty, .int (nI x.k)])), (x.hty, .inl (cB, 256, .inl (x.f))), (x.hba, .inr (1, [.ref x.hby, .int (nI x.kb)])), (x.hby, .inl (cB, 256, .inl (x.fb))), (x.hf, .inr (1, [.ref x.hfy, .int (nI x.kf)])), (x.hfy, .inl (cB, 256, .inl (x.ff)))]) (X2 := [(x.hwr, .inr (3, [.ref x.hrw, .int (nI x.q)])), (x.hrw, .inl (cB, 512, .inl (x.g))), (x.hb1, .inr (1, [.ref x.hy, .int (nI x.ku)])), (x.hy, .inl (cB, 256, .inl (x.fu))), (x.hc, .inr (1, [.ref x.hcy, .int (nI x.kc)])), (x.hcy, .inl (cB, 256, .inl (x.fc)))]) (pick [0, 1, 2, 3, 4, 5, 6, 7, 12, 13, 8, 9, 10, 11, 14, 15] 16 rfl rfl rfl) (pW_take hi8 hdi))) [1, 2, 0] rfl (fun r h => ⟨rfl, h⟩) (fun t hb fr => ?_)
          obtain ⟨hta2, hty2, hba2, hby2, k2, f2, kb2, fb2, vp2, a2x, B2, fe2, hu, hat⟩ := hb
          exact ⟨(x.hd, x.hb1, x.hy, x.hf, x.hfy, x.hc, x.hcy, x.hmk, hta2, hty2, hba2, hby2, x.hwr, x.hrw, x.hp, 0, (bI σ.go.isSome), x.wl, (nI σ.nd), (nI (bct 6 r9)), a2x, vp2, k2, kb2, x.q, x.ku, k2, x.kc, f2, fb2, x.g, x.fu, fe2, x.fc), ds, (kOk.mk hd0 (fun _ => ⟨rfl, hgw⟩) rfl rfl hk.ds hk.ok hk.kp hk.bu ⟨hu.2, hu.1.1.2⟩ ⟨Y, hu.1.1⟩ ⟨B2, hu.1.2⟩ hk.cm), fr _ _ _ hat (kz ((List.Perm.of_eq (rfl : kW h0 cB cD cR (x.hd, x.hb1, x.hy, x.hf, x.hfy, x.hc, x.hcy, x.hmk, hta2, hty2, hba2, hby2, x.hwr, x.hrw, x.hp, 0, (bI σ.go.isSome), x.wl, (nI σ.nd), (nI (bct 6 r9)), a2x, vp2, k2, kb2, x.q, x.ku, k2, x.kc, f2, fb2, x.g, x.fu, fe2, x.fc) ds = ([(h0, .inr (0, [.ref x.hd, .ref x.hb1, .ref x.hf, .ref x.hc, .ref x.hmk, .ref x.hwr, .ref x.hp, .int (nI σ.nd), .int (nI (bct 6 r9))])), (x.hp, .inr (4, [.int 0, .int (bI σ.go.isSome), .int x.wl])), (x.hd, .inl (cD, 8, .inr (.inr (.inr (.inr ((dsA ds))))))), (x.hmk, .inr (2, [.ref hba2, .ref hta2, vp2, .int a2x])), (hta2, .inr (1, [.ref hty2, .int (nI k2)])), (hty2, .inl (cB, 256, .inl (f2))), (hba2, .inr (1, [.ref hby2, .int (nI kb2)])), (hby2, .inl (cB, 256, .inl (fb2))), (x.hwr, .inr (3, [.ref x.hrw, .int (nI x.q)])), (x.hrw, .inl (cB, 512, .inl (x.g))), (x.hb1, .inr (1, [.ref x.hy, .int (nI x.ku)])), (x.hy, .inl (cB, 256, .inl (x.fu))), (x.hf, .inr (1, [.ref x.hfy, .int (nI k2)])), (x.hfy, .inl (cB, 256, .inl (fe2))), (x.hc, .inr (1, [.ref x.hcy, .int (nI x.kc)])), (x.hcy, .inl (cB, 256, .inl (x.fc)))] : va_W) ++ pW cB cR ds)).trans (kmp (X1 := [(h0, .inr (0, [.ref x.hd, .ref x.hb1, .ref x.hf, .ref x.hc, .ref x.hmk, .ref x.hwr, .ref x.hp, .int (nI σ.nd), .int (nI (bct 6 r9))])), (x.hp, .inr (4, [.int 0, .int (bI σ.go.isSome), .int x.wl])), (x.hd, .inl (cD, 8, .inr (.inr (.inr (.inr ((dsA ds))))))), (x.hmk, .inr (2, [.ref hba2, .ref hta2, vp2, .int a2x])), (hta2, .inr (1, [.ref hty2, .int (nI k2)])), (hty2, .inl (cB, 256, .inl (f2))), (hba2, .inr (1, [.ref hby2, .int (nI kb2)])), (hby2, .inl (cB, 256, .inl (fb2))), (x.hf, .inr (1, [.ref x.hfy, .int (nI k2)])), (x.hfy, .inl (cB, 256, .inl (fe2)))]) (X2 := [(x.hwr, .inr (3, [.ref x.hrw, .int (nI x.q)])), (x.hrw, .inl (cB, 512, .inl (x.g))), (x.hb1, .inr (1, [.ref x.hy, .int (nI x.ku)])), (x.hy, .inl (cB, 256, .inl (x.fu))), (x.hc, .inr (1, [.ref x.hcy, .int (nI x.kc)])), (x.hcy, .inl (cB, 256, .inl (x.fc)))]) (pick [0, 1, 2, 3, 4, 5, 6, 7, 12, 13, 8, 9, 10, 11, 14, 15] 16 rfl rfl rfl) (pW_take hi8 hdi))))⟩
set_option maxHeartbeats 4000000 in
set_option maxRecDepth 100000 in
theorem k_verify (l : Launch) (hl9 : l.stackTraces = false) (dC : Nat → ClassId) (dI : Nat → Nat → Nat) (sz : Nat) (h0 : Nat) (cB cD cR : ClassId) (x : KX) (ds : Nat → Option Dc) (σ : Sg) (a1 : Int32) (hs : sOk σ) (hk : kOk σ x ds) : kMet l y_K_verify k_K_verify ex1 (dC, dI) sz h0 cB cD cR x ds [.ref h0, .int a1] (sVerify σ a1) := by
  cases hdn : σ.down with
  | true =>
    have hW : kW h0 cB cD cR x ds = ([(h0, .inr (0, [.ref x.hd, .ref x.hb1, .ref x.hf, .ref x.hc, .ref x.hmk, .ref x.hwr, .ref x.hp, .int x.md, .int x.fs])), (x.hp, .inr (4, [.int 1, .int x.gi, .int x.wl])), (x.hd, .inl (cD, 8, .inr (.inr (.inr (.inr ((dsA ds))))))), (x.hmk, .inr (2, [.ref x.hba, .ref x.hta, x.vp, .int x.a0])), (x.hta, .inr (1, [.ref x.hty, .int (nI x.k)])), (x.hty, .inl (cB, 256, .inl (x.f))), (x.hba, .inr (1, [.ref x.hby, .int (nI x.kb)])), (x.hby, .inl (cB, 256, .inl (x.fb))), (x.hwr, .inr (3, [.ref x.hrw, .int (nI x.q)])), (x.hrw, .inl (cB, 512, .inl (x.g))), (x.hb1, .inr (1, [.ref x.hy, .int (nI x.ku)])), (x.hy, .inl (cB, 256, .inl (x.fu))), (x.hf, .inr (1, [.ref x.hfy, .int (nI x.kf)])), (x.hfy, .inl (cB, 256, .inl (x.ff))), (x.hc, .inr (1, [.ref x.hcy, .int (nI x.kc)])), (x.hcy, .inl (cB, 256, .inl (x.fc)))] : va_W) ++ pW cB cR ds := by unfold kW; rw [hk.dw, hdn]; rfl
    have hst : (sVerify σ a1) = (σ, 1, 0) := by unfold sVerify; rw [if_pos hdn]
    rw [hst]
    exact kDown (x_verify_D l hl9 dC dI sz h0 (.ref x.hd) (.ref x.hb1) (.ref x.hf) (.ref x.hc) (.ref x.hmk) (.ref x.hwr) x.md x.fs x.hp x.gi x.wl a1) (by decide) ((List.Perm.of_eq hW).trans (km0 (X1 := [(h0, .inr (0, [.ref x.hd, .ref x.hb1, .ref x.hf, .ref x.hc, .ref x.hmk, .ref x.hwr, .ref x.hp, .int x.md, .int x.fs])), (x.hp, .inr (4, [.int 1, .int x.gi, .int x.wl]))]) (X2 := [(x.hd, .inl (cD, 8, .inr (.inr (.inr (.inr ((dsA ds))))))), (x.hmk, .inr (2, [.ref x.hba, .ref x.hta, x.vp, .int x.a0])), (x.hta, .inr (1, [.ref x.hty, .int (nI x.k)])), (x.hty, .inl (cB, 256, .inl (x.f))), (x.hba, .inr (1, [.ref x.hby, .int (nI x.kb)])), (x.hby, .inl (cB, 256, .inl (x.fb))), (x.hwr, .inr (3, [.ref x.hrw, .int (nI x.q)])), (x.hrw, .inl (cB, 512, .inl (x.g))), (x.hb1, .inr (1, [.ref x.hy, .int (nI x.ku)])), (x.hy, .inl (cB, 256, .inl (x.fu))), (x.hf, .inr (1, [.ref x.hfy, .int (nI x.kf)])), (x.hfy, .inl (cB, 256, .inl (x.ff))), (x.hc, .inr (1, [.ref x.hcy, .int (nI x.kc)])), (x.hcy, .inl (cB, 256, .inl (x.fc)))]) (pick [0, 1, 2, 3, 4, 5, 6, 7, 8, 9, 10, 11, 12, 13, 14, 15] 16 rfl rfl rfl))) [] rfl hk (by decide) rfl
  | false =>
    obtain ⟨hgi, hgw⟩ := hk.gi hdn
    have hg : ∀ w, σ.go = some w → x.wl = nI w ∧ w < 2 ^ 31 := fun w h => ⟨hgw w h, hs.go w h⟩
    have hd0 : (0 : Int32) = bI σ.down := by rw [hdn]; rfl
    have hndn : ¬ σ.down = true := by rw [hdn]; decide
    have hW : kW h0 cB cD cR x ds = ([(h0, .inr (0, [.ref x.hd, .ref x.hb1, .ref x.hf, .ref x.hc, .ref x.hmk, .ref x.hwr, .ref x.hp, .int (nI σ.nd), .int σ.stp])), (x.hp, .inr (4, [.int 0, .int (bI σ.go.isSome), .int x.wl])), (x.hd, .inl (cD, 8, .inr (.inr (.inr (.inr ((dsA ds))))))), (x.hmk, .inr (2, [.ref x.hba, .ref x.hta, x.vp, .int x.a0])), (x.hta, .inr (1, [.ref x.hty, .int (nI x.k)])), (x.hty, .inl (cB, 256, .inl (x.f))), (x.hba, .inr (1, [.ref x.hby, .int (nI x.kb)])), (x.hby, .inl (cB, 256, .inl (x.fb))), (x.hwr, .inr (3, [.ref x.hrw, .int (nI x.q)])), (x.hrw, .inl (cB, 512, .inl (x.g))), (x.hb1, .inr (1, [.ref x.hy, .int (nI x.ku)])), (x.hy, .inl (cB, 256, .inl (x.fu))), (x.hf, .inr (1, [.ref x.hfy, .int (nI x.kf)])), (x.hfy, .inl (cB, 256, .inl (x.ff))), (x.hc, .inr (1, [.ref x.hcy, .int (nI x.kc)])), (x.hcy, .inl (cB, 256, .inl (x.fc)))] : va_W) ++ pW cB cR ds := by unfold kW; rw [hk.dw, hdn, hgi, hk.md, hk.fs]; rfl
    cases hd : dGet σ.ds a1 with
    | none =>
      have hdN := kdocN hk hd
      have hst : (sVerify σ a1) = (σ, 0, -1) := by unfold sVerify; rw [if_neg hndn, hd]
      rw [hst]
      exact kPure (g_verify_N l dC dI h0 (.ref x.hb1) (.ref x.hf) (.ref x.hc) (.ref x.hmk) (.ref x.hwr) (nI σ.nd) σ.stp x.hp (bI σ.go.isSome) x.wl x.hd cD (dsA ds) a1 hdN) (by decide) ((List.Perm.of_eq hW).trans (km0 (X1 := [(h0, .inr (0, [.ref x.hd, .ref x.hb1, .ref x.hf, .ref x.hc, .ref x.hmk, .ref x.hwr, .ref x.hp, .int (nI σ.nd), .int σ.stp])), (x.hp, .inr (4, [.int 0, .int (bI σ.go.isSome), .int x.wl])), (x.hd, .inl (cD, 8, .inr (.inr (.inr (.inr ((dsA ds)))))))]) (X2 := [(x.hmk, .inr (2, [.ref x.hba, .ref x.hta, x.vp, .int x.a0])), (x.hta, .inr (1, [.ref x.hty, .int (nI x.k)])), (x.hty, .inl (cB, 256, .inl (x.f))), (x.hba, .inr (1, [.ref x.hby, .int (nI x.kb)])), (x.hby, .inl (cB, 256, .inl (x.fb))), (x.hwr, .inr (3, [.ref x.hrw, .int (nI x.q)])), (x.hrw, .inl (cB, 512, .inl (x.g))), (x.hb1, .inr (1, [.ref x.hy, .int (nI x.ku)])), (x.hy, .inl (cB, 256, .inl (x.fu))), (x.hf, .inr (1, [.ref x.hfy, .int (nI x.kf)])), (x.hfy, .inl (cB, 256, .inl (x.ff))), (x.hc, .inr (1, [.ref x.hcy, .int (nI x.kc)])), (x.hcy, .inl (cB, 256, .inl (x.fc)))]) (pick [0, 1, 2, 3, 4, 5, 6, 7, 8, 9, 10, 11, 12, 13, 14, 15] 16 rfl rfl rfl))) [1] rfl hk
    | some p =>
      obtain ⟨i, dm⟩ := p
      obtain ⟨d, hi8, rfl, hdi, rfl, hdS, hc64, hok, hkp, hdm⟩ := kdocS hs hk hd
      have hfd : d.first ≤ d.count := hdm.1
      obtain ⟨T, hmt, hmt2⟩ := hk.mt
      obtain ⟨Bs, hmb, hmb2⟩ := hk.mb
      have hst : (sVerify σ (nI i)) = (σ, 0, vrS d.rv (d.count - d.first) d.first) := by unfold sVerify; rw [if_neg hndn, hd]; show (σ, (0 : Int32), vrf (dcM d) (d.count - d.first) d.first) = _; rw [vrS_M]
      rw [hst]
      refine kRet (g_verify_T l dC dI sz h0 (.ref x.hb1) (.ref x.hf) (.ref x.hc) (.ref x.hwr) (nI σ.nd) σ.stp x.hmk x.hp x.hd d.a d.ra cR d.first d.count cB d.rv (rvW cB d.rv ++ pW cB cR (va_up ds i none)) (bI σ.go.isSome) x.wl cD (dsA ds) (nI i) x.hta x.hty x.hba x.hby x.k x.f x.kb x.fb x.vp x.a0 T Bs hmt hmt2 hmb hmb2 hc64 plR_of hok hkp hfd hdS) (by decide) ((List.Perm.of_eq hW).trans (kmp (X1 := [(h0, .inr (0, [.ref x.hd, .ref x.hb1, .ref x.hf, .ref x.hc, .ref x.hmk, .ref x.hwr, .ref x.hp, .int (nI σ.nd), .int σ.stp])), (x.hp, .inr (4, [.int 0, .int (bI σ.go.isSome), .int x.wl])), (x.hd, .inl (cD, 8, .inr (.inr (.inr (.inr ((dsA ds))))))), (x.hmk, .inr (2, [.ref x.hba, .ref x.hta, x.vp, .int x.a0])), (x.hta, .inr (1, [.ref x.hty, .int (nI x.k)])), (x.hty, .inl (cB, 256, .inl (x.f))), (x.hba, .inr (1, [.ref x.hby, .int (nI x.kb)])), (x.hby, .inl (cB, 256, .inl (x.fb)))]) (X2 := [(x.hwr, .inr (3, [.ref x.hrw, .int (nI x.q)])), (x.hrw, .inl (cB, 512, .inl (x.g))), (x.hb1, .inr (1, [.ref x.hy, .int (nI x.ku)])), (x.hy, .inl (cB, 256, .inl (x.fu))), (x.hf, .inr (1, [.ref x.hfy, .int (nI x.kf)])), (x.hfy, .inl (cB, 256, .inl (x.ff))), (x.hc, .inr (1, [.ref x.hcy, .int (nI x.kc)])), (x.hcy, .inl (cB, 256, .inl (x.fc)))]) (pick [0, 1, 2, 3, 4, 5, 6, 7, 8, 9, 10, 11, 12, 13, 14, 15] 16 rfl rfl rfl) (pW_take hi8 hdi))) [1, 2, 0] rfl (fun r h => ⟨rfl, h⟩) (fun t hb fr => ?_)
      obtain ⟨hta2, hty2, hba2, hby2, k2, f2, kb2, fb2, vp2, a2x, B2, T2, hu, hat⟩ := hb
      exact ⟨(x.hd, x.hb1, x.hy, x.hf, x.hfy, x.hc, x.hcy, x.hmk, hta2, hty2, hba2, hby2, x.hwr, x.hrw, x.hp, 0, (bI σ.go.isSome), x.wl, (nI σ.nd), σ.stp, a2x, vp2, k2, kb2, x.q, x.ku, x.kf, x.kc, f2, fb2, x.g, x.fu, x.ff, x.fc), ds, (kOk.mk hd0 (fun _ => ⟨rfl, hgw⟩) rfl rfl hk.ds hk.ok hk.kp hk.bu hk.fe ⟨T2, hu.1⟩ ⟨B2, hu.2⟩ hk.cm), fr _ _ _ hat (kz ((List.Perm.of_eq (rfl : kW h0 cB cD cR (x.hd, x.hb1, x.hy, x.hf, x.hfy, x.hc, x.hcy, x.hmk, hta2, hty2, hba2, hby2, x.hwr, x.hrw, x.hp, 0, (bI σ.go.isSome), x.wl, (nI σ.nd), σ.stp, a2x, vp2, k2, kb2, x.q, x.ku, x.kf, x.kc, f2, fb2, x.g, x.fu, x.ff, x.fc) ds = ([(h0, .inr (0, [.ref x.hd, .ref x.hb1, .ref x.hf, .ref x.hc, .ref x.hmk, .ref x.hwr, .ref x.hp, .int (nI σ.nd), .int σ.stp])), (x.hp, .inr (4, [.int 0, .int (bI σ.go.isSome), .int x.wl])), (x.hd, .inl (cD, 8, .inr (.inr (.inr (.inr ((dsA ds))))))), (x.hmk, .inr (2, [.ref hba2, .ref hta2, vp2, .int a2x])), (hta2, .inr (1, [.ref hty2, .int (nI k2)])), (hty2, .inl (cB, 256, .inl (f2))), (hba2, .inr (1, [.ref hby2, .int (nI kb2)])), (hby2, .inl (cB, 256, .inl (fb2))), (x.hwr, .inr (3, [.ref x.hrw, .int (nI x.q)])), (x.hrw, .inl (cB, 512, .inl (x.g))), (x.hb1, .inr (1, [.ref x.hy, .int (nI x.ku)])), (x.hy, .inl (cB, 256, .inl (x.fu))), (x.hf, .inr (1, [.ref x.hfy, .int (nI x.kf)])), (x.hfy, .inl (cB, 256, .inl (x.ff))), (x.hc, .inr (1, [.ref x.hcy, .int (nI x.kc)])), (x.hcy, .inl (cB, 256, .inl (x.fc)))] : va_W) ++ pW cB cR ds)).trans (kmp (X1 := [(h0, .inr (0, [.ref x.hd, .ref x.hb1, .ref x.hf, .ref x.hc, .ref x.hmk, .ref x.hwr, .ref x.hp, .int (nI σ.nd), .int σ.stp])), (x.hp, .inr (4, [.int 0, .int (bI σ.go.isSome), .int x.wl])), (x.hd, .inl (cD, 8, .inr (.inr (.inr (.inr ((dsA ds))))))), (x.hmk, .inr (2, [.ref hba2, .ref hta2, vp2, .int a2x])), (hta2, .inr (1, [.ref hty2, .int (nI k2)])), (hty2, .inl (cB, 256, .inl (f2))), (hba2, .inr (1, [.ref hby2, .int (nI kb2)])), (hby2, .inl (cB, 256, .inl (fb2)))]) (X2 := [(x.hwr, .inr (3, [.ref x.hrw, .int (nI x.q)])), (x.hrw, .inl (cB, 512, .inl (x.g))), (x.hb1, .inr (1, [.ref x.hy, .int (nI x.ku)])), (x.hy, .inl (cB, 256, .inl (x.fu))), (x.hf, .inr (1, [.ref x.hfy, .int (nI x.kf)])), (x.hfy, .inl (cB, 256, .inl (x.ff))), (x.hc, .inr (1, [.ref x.hcy, .int (nI x.kc)])), (x.hcy, .inl (cB, 256, .inl (x.fc)))]) (pick [0, 1, 2, 3, 4, 5, 6, 7, 8, 9, 10, 11, 12, 13, 14, 15] 16 rfl rfl rfl) (pW_take hi8 hdi))))⟩
set_option maxHeartbeats 4000000 in
set_option maxRecDepth 100000 in
theorem k_common (l : Launch) (hl9 : l.stackTraces = false) (dC : Nat → ClassId) (dI : Nat → Nat → Nat) (sz : Nat) (h0 : Nat) (cB cD cR : ClassId) (x : KX) (ds : Nat → Option Dc) (σ : Sg) (a1 : Int32) (a2 : Int32) (a3 : Int32) (a4 : Int32) (hs : sOk σ) (hk : kOk σ x ds) : kMet l y_K_common k_K_common ex1 (dC, dI) sz h0 cB cD cR x ds [.ref h0, .int a1, .int a2, .int a3, .int a4] (sCommon σ a1 a2 a3 a4) := by
  cases hdn : σ.down with
  | true =>
    have hW : kW h0 cB cD cR x ds = ([(h0, .inr (0, [.ref x.hd, .ref x.hb1, .ref x.hf, .ref x.hc, .ref x.hmk, .ref x.hwr, .ref x.hp, .int x.md, .int x.fs])), (x.hp, .inr (4, [.int 1, .int x.gi, .int x.wl])), (x.hd, .inl (cD, 8, .inr (.inr (.inr (.inr ((dsA ds))))))), (x.hmk, .inr (2, [.ref x.hba, .ref x.hta, x.vp, .int x.a0])), (x.hta, .inr (1, [.ref x.hty, .int (nI x.k)])), (x.hty, .inl (cB, 256, .inl (x.f))), (x.hba, .inr (1, [.ref x.hby, .int (nI x.kb)])), (x.hby, .inl (cB, 256, .inl (x.fb))), (x.hwr, .inr (3, [.ref x.hrw, .int (nI x.q)])), (x.hrw, .inl (cB, 512, .inl (x.g))), (x.hb1, .inr (1, [.ref x.hy, .int (nI x.ku)])), (x.hy, .inl (cB, 256, .inl (x.fu))), (x.hf, .inr (1, [.ref x.hfy, .int (nI x.kf)])), (x.hfy, .inl (cB, 256, .inl (x.ff))), (x.hc, .inr (1, [.ref x.hcy, .int (nI x.kc)])), (x.hcy, .inl (cB, 256, .inl (x.fc)))] : va_W) ++ pW cB cR ds := by unfold kW; rw [hk.dw, hdn]; rfl
    have hst : (sCommon σ a1 a2 a3 a4) = (σ, 1, 0) := by unfold sCommon; rw [if_pos hdn]
    rw [hst]
    exact kDown (x_common_D l hl9 dC dI sz h0 (.ref x.hd) (.ref x.hb1) (.ref x.hf) (.ref x.hc) (.ref x.hmk) (.ref x.hwr) x.md x.fs x.hp x.gi x.wl a1 a2 a3 a4) (by decide) ((List.Perm.of_eq hW).trans (km0 (X1 := [(h0, .inr (0, [.ref x.hd, .ref x.hb1, .ref x.hf, .ref x.hc, .ref x.hmk, .ref x.hwr, .ref x.hp, .int x.md, .int x.fs])), (x.hp, .inr (4, [.int 1, .int x.gi, .int x.wl]))]) (X2 := [(x.hd, .inl (cD, 8, .inr (.inr (.inr (.inr ((dsA ds))))))), (x.hmk, .inr (2, [.ref x.hba, .ref x.hta, x.vp, .int x.a0])), (x.hta, .inr (1, [.ref x.hty, .int (nI x.k)])), (x.hty, .inl (cB, 256, .inl (x.f))), (x.hba, .inr (1, [.ref x.hby, .int (nI x.kb)])), (x.hby, .inl (cB, 256, .inl (x.fb))), (x.hwr, .inr (3, [.ref x.hrw, .int (nI x.q)])), (x.hrw, .inl (cB, 512, .inl (x.g))), (x.hb1, .inr (1, [.ref x.hy, .int (nI x.ku)])), (x.hy, .inl (cB, 256, .inl (x.fu))), (x.hf, .inr (1, [.ref x.hfy, .int (nI x.kf)])), (x.hfy, .inl (cB, 256, .inl (x.ff))), (x.hc, .inr (1, [.ref x.hcy, .int (nI x.kc)])), (x.hcy, .inl (cB, 256, .inl (x.fc)))]) (pick [0, 1, 2, 3, 4, 5, 6, 7, 8, 9, 10, 11, 12, 13, 14, 15] 16 rfl rfl rfl))) [] rfl hk (by decide) rfl
  | false =>
    obtain ⟨hgi, hgw⟩ := hk.gi hdn
    have hg : ∀ w, σ.go = some w → x.wl = nI w ∧ w < 2 ^ 31 := fun w h => ⟨hgw w h, hs.go w h⟩
    have hd0 : (0 : Int32) = bI σ.down := by rw [hdn]; rfl
    have hndn : ¬ σ.down = true := by rw [hdn]; decide
    have hW : kW h0 cB cD cR x ds = ([(h0, .inr (0, [.ref x.hd, .ref x.hb1, .ref x.hf, .ref x.hc, .ref x.hmk, .ref x.hwr, .ref x.hp, .int (nI σ.nd), .int σ.stp])), (x.hp, .inr (4, [.int 0, .int (bI σ.go.isSome), .int x.wl])), (x.hd, .inl (cD, 8, .inr (.inr (.inr (.inr ((dsA ds))))))), (x.hmk, .inr (2, [.ref x.hba, .ref x.hta, x.vp, .int x.a0])), (x.hta, .inr (1, [.ref x.hty, .int (nI x.k)])), (x.hty, .inl (cB, 256, .inl (x.f))), (x.hba, .inr (1, [.ref x.hby, .int (nI x.kb)])), (x.hby, .inl (cB, 256, .inl (x.fb))), (x.hwr, .inr (3, [.ref x.hrw, .int (nI x.q)])), (x.hrw, .inl (cB, 512, .inl (x.g))), (x.hb1, .inr (1, [.ref x.hy, .int (nI x.ku)])), (x.hy, .inl (cB, 256, .inl (x.fu))), (x.hf, .inr (1, [.ref x.hfy, .int (nI x.kf)])), (x.hfy, .inl (cB, 256, .inl (x.ff))), (x.hc, .inr (1, [.ref x.hcy, .int (nI x.kc)])), (x.hcy, .inl (cB, 256, .inl (x.fc)))] : va_W) ++ pW cB cR ds := by unfold kW; rw [hk.dw, hdn, hgi, hk.md, hk.fs]; rfl
    cases hd : dGet σ.ds a1 with
    | none =>
      have hdN := kdocN hk hd
      have hst : (sCommon σ a1 a2 a3 a4) = (σ, 0, -1) := by unfold sCommon; rw [if_neg hndn, hd]
      rw [hst]
      exact kPure (g_common_N l dC dI h0 (.ref x.hb1) (.ref x.hf) (.ref x.hc) (.ref x.hmk) (.ref x.hwr) (nI σ.nd) σ.stp x.hp (bI σ.go.isSome) x.wl x.hd cD (dsA ds) a1 a2 a3 a4 hdN) (by decide) ((List.Perm.of_eq hW).trans (km0 (X1 := [(h0, .inr (0, [.ref x.hd, .ref x.hb1, .ref x.hf, .ref x.hc, .ref x.hmk, .ref x.hwr, .ref x.hp, .int (nI σ.nd), .int σ.stp])), (x.hp, .inr (4, [.int 0, .int (bI σ.go.isSome), .int x.wl])), (x.hd, .inl (cD, 8, .inr (.inr (.inr (.inr ((dsA ds)))))))]) (X2 := [(x.hmk, .inr (2, [.ref x.hba, .ref x.hta, x.vp, .int x.a0])), (x.hta, .inr (1, [.ref x.hty, .int (nI x.k)])), (x.hty, .inl (cB, 256, .inl (x.f))), (x.hba, .inr (1, [.ref x.hby, .int (nI x.kb)])), (x.hby, .inl (cB, 256, .inl (x.fb))), (x.hwr, .inr (3, [.ref x.hrw, .int (nI x.q)])), (x.hrw, .inl (cB, 512, .inl (x.g))), (x.hb1, .inr (1, [.ref x.hy, .int (nI x.ku)])), (x.hy, .inl (cB, 256, .inl (x.fu))), (x.hf, .inr (1, [.ref x.hfy, .int (nI x.kf)])), (x.hfy, .inl (cB, 256, .inl (x.ff))), (x.hc, .inr (1, [.ref x.hcy, .int (nI x.kc)])), (x.hcy, .inl (cB, 256, .inl (x.fc)))]) (pick [0, 1, 2, 3, 4, 5, 6, 7, 8, 9, 10, 11, 12, 13, 14, 15] 16 rfl rfl rfl))) [1] rfl hk
    | some p =>
      obtain ⟨i, dm⟩ := p
      obtain ⟨d, hi8, rfl, hdi, rfl, hdS, hc64, hok, hkp, hdm⟩ := kdocS hs hk hd
      have hfd : d.first ≤ d.count := hdm.1
      by_cases hna : a2 < nI d.first ∨ nI d.count ≤ a2
      · have hst : (sCommon σ (nI i) a2 a3 a4) = (σ, 0, -1) := by unfold sCommon; rw [if_neg hndn, hd]; exact if_pos (Or.inl hna)
        rw [hst]
        exact kPure (g_common_A l dC dI h0 (.ref x.hb1) (.ref x.hf) (.ref x.hc) (.ref x.hmk) (.ref x.hwr) (nI σ.nd) σ.stp x.hp (bI σ.go.isSome) x.wl x.hd cD (dsA ds) d.a d.ra cR d.first d.count (rvA d.rv) (nI i) a2 a3 a4 hdS hc64 hna) (by decide) ((List.Perm.of_eq hW).trans (km (X1 := [(h0, .inr (0, [.ref x.hd, .ref x.hb1, .ref x.hf, .ref x.hc, .ref x.hmk, .ref x.hwr, .ref x.hp, .int (nI σ.nd), .int σ.stp])), (x.hp, .inr (4, [.int 0, .int (bI σ.go.isSome), .int x.wl])), (x.hd, .inl (cD, 8, .inr (.inr (.inr (.inr ((dsA ds)))))))]) (X2 := [(x.hmk, .inr (2, [.ref x.hba, .ref x.hta, x.vp, .int x.a0])), (x.hta, .inr (1, [.ref x.hty, .int (nI x.k)])), (x.hty, .inl (cB, 256, .inl (x.f))), (x.hba, .inr (1, [.ref x.hby, .int (nI x.kb)])), (x.hby, .inl (cB, 256, .inl (x.fb))), (x.hwr, .inr (3, [.ref x.hrw, .int (nI x.q)])), (x.hrw, .inl (cB, 512, .inl (x.g))), (x.hb1, .inr (1, [.ref x.hy, .int (nI x.ku)])), (x.hy, .inl (cB, 256, .inl (x.fu))), (x.hf, .inr (1, [.ref x.hfy, .int (nI x.kf)])), (x.hfy, .inl (cB, 256, .inl (x.ff))), (x.hc, .inr (1, [.ref x.hcy, .int (nI x.kc)])), (x.hcy, .inl (cB, 256, .inl (x.fc)))]) (pick [0, 1, 2, 3, 4, 5, 6, 7, 8, 9, 10, 11, 12, 13, 14, 15] 16 rfl rfl rfl) (pW_take hi8 hdi))) [1, 2] rfl hk
      · obtain ⟨r9, rfl, ha1, ha2, hc9⟩ := kask hfd hc64 hna
        by_cases hna2 : a3 < nI d.first ∨ nI d.count ≤ a3
        · have hst : (sCommon σ (nI i) (nI r9) a3 a4) = (σ, 0, -1) := by unfold sCommon; rw [if_neg hndn, hd]; exact if_pos (Or.inr (Or.inl hna2))
          rw [hst]
          exact kPure (g_common_A2 l dC dI h0 (.ref x.hb1) (.ref x.hf) (.ref x.hc) (.ref x.hmk) (.ref x.hwr) (nI σ.nd) σ.stp x.hp (bI σ.go.isSome) x.wl x.hd cD (dsA ds) d.a d.ra cR d.first d.count (rvA d.rv) (nI i) r9 a3 a4 hdS hc64 ha1 ha2 hna2) (by decide) ((List.Perm.of_eq hW).trans (km (X1 := [(h0, .inr (0, [.ref x.hd, .ref x.hb1, .ref x.hf, .ref x.hc, .ref x.hmk, .ref x.hwr, .ref x.hp, .int (nI σ.nd), .int σ.stp])), (x.hp, .inr (4, [.int 0, .int (bI σ.go.isSome), .int x.wl])), (x.hd, .inl (cD, 8, .inr (.inr (.inr (.inr ((dsA ds)))))))]) (X2 := [(x.hmk, .inr (2, [.ref x.hba, .ref x.hta, x.vp, .int x.a0])), (x.hta, .inr (1, [.ref x.hty, .int (nI x.k)])), (x.hty, .inl (cB, 256, .inl (x.f))), (x.hba, .inr (1, [.ref x.hby, .int (nI x.kb)])), (x.hby, .inl (cB, 256, .inl (x.fb))), (x.hwr, .inr (3, [.ref x.hrw, .int (nI x.q)])), (x.hrw, .inl (cB, 512, .inl (x.g))), (x.hb1, .inr (1, [.ref x.hy, .int (nI x.ku)])), (x.hy, .inl (cB, 256, .inl (x.fu))), (x.hf, .inr (1, [.ref x.hfy, .int (nI x.kf)])), (x.hfy, .inl (cB, 256, .inl (x.ff))), (x.hc, .inr (1, [.ref x.hcy, .int (nI x.kc)])), (x.hcy, .inl (cB, 256, .inl (x.fc)))]) (pick [0, 1, 2, 3, 4, 5, 6, 7, 8, 9, 10, 11, 12, 13, 14, 15] 16 rfl rfl rfl) (pW_take hi8 hdi))) [1, 2] rfl hk
        · obtain ⟨r8, rfl, ha3, ha4, hc8⟩ := kask hfd hc64 hna2
          by_cases hw4 : a4 = 0 ∨ a4 = 1
          · obtain ⟨T, hmt, hmt2⟩ := hk.mt
            obtain ⟨Bs, hmb, hmb2⟩ := hk.mb
            obtain ⟨F, hcm, hcm2⟩ := hk.cm
            cases hag : agn (rvP d.rv) r9 with
            | none =>
              have hst : (sCommon σ (nI i) (nI r9) (nI r8) a4) = (σ, 0, -2) := by unfold sCommon; rw [if_neg hndn, hd]; refine (if_neg (fun z => z.elim hna (fun z => z.elim hna2 (fun z => z hw4)))).trans ?_; rw [dmP_M, hc9, hc8, hag]
              rw [hst]
              refine kRet (g_common_B l dC dI sz h0 (.ref x.hb1) (.ref x.hf) (.ref x.hwr) (nI σ.nd) σ.stp x.hp (bI σ.go.isSome) x.wl x.hmk x.hd cD (dsA ds) x.hta x.hty x.hba x.hby cB x.k x.f x.kb x.fb x.vp x.a0 T Bs x.hc x.hcy x.kc x.fc F d.a d.ra cR d.first d.count d.rv (rvW cB d.rv ++ pW cB cR (va_up ds i none)) (nI i) r9 r8 a4 hmt hmt2 hmb hmb2 hcm hdS hc64 ha1 ha2 ha3 ha4 plR_of hok hw4 hag) (by decide) ((List.Perm.of_eq hW).trans (kmp (X1 := [(h0, .inr (0, [.ref x.hd, .ref x.hb1, .ref x.hf, .ref x.hc, .ref x.hmk, .ref x.hwr, .ref x.hp, .int (nI σ.nd), .int σ.stp])), (x.hp, .inr (4, [.int 0, .int (bI σ.go.isSome), .int x.wl])), (x.hd, .inl (cD, 8, .inr (.inr (.inr (.inr ((dsA ds))))))), (x.hmk, .inr (2, [.ref x.hba, .ref x.hta, x.vp, .int x.a0])), (x.hta, .inr (1, [.ref x.hty, .int (nI x.k)])), (x.hty, .inl (cB, 256, .inl (x.f))), (x.hba, .inr (1, [.ref x.hby, .int (nI x.kb)])), (x.hby, .inl (cB, 256, .inl (x.fb))), (x.hc, .inr (1, [.ref x.hcy, .int (nI x.kc)])), (x.hcy, .inl (cB, 256, .inl (x.fc)))]) (X2 := [(x.hwr, .inr (3, [.ref x.hrw, .int (nI x.q)])), (x.hrw, .inl (cB, 512, .inl (x.g))), (x.hb1, .inr (1, [.ref x.hy, .int (nI x.ku)])), (x.hy, .inl (cB, 256, .inl (x.fu))), (x.hf, .inr (1, [.ref x.hfy, .int (nI x.kf)])), (x.hfy, .inl (cB, 256, .inl (x.ff)))]) (pick [0, 1, 2, 3, 4, 5, 6, 7, 14, 15, 8, 9, 10, 11, 12, 13] 16 rfl rfl rfl) (pW_take hi8 hdi))) [1, 2, 0] rfl (fun r h => ⟨rfl, h⟩) (fun t hb fr => ?_)
              obtain ⟨hta2, hty2, hba2, hby2, k2, f2, kb2, fb2, vp2, a2x, B2, T2, hu, hat⟩ := hb
              exact ⟨(x.hd, x.hb1, x.hy, x.hf, x.hfy, x.hc, x.hcy, x.hmk, hta2, hty2, hba2, hby2, x.hwr, x.hrw, x.hp, 0, (bI σ.go.isSome), x.wl, (nI σ.nd), σ.stp, a2x, vp2, k2, kb2, x.q, x.ku, x.kf, x.kc, f2, fb2, x.g, x.fu, x.ff, x.fc), ds, (kOk.mk hd0 (fun _ => ⟨rfl, hgw⟩) rfl rfl hk.ds hk.ok hk.kp hk.bu hk.fe ⟨T2, hu.1⟩ ⟨B2, hu.2⟩ hk.cm), fr _ _ _ hat (kz ((List.Perm.of_eq (rfl : kW h0 cB cD cR (x.hd, x.hb1, x.hy, x.hf, x.hfy, x.hc, x.hcy, x.hmk, hta2, hty2, hba2, hby2, x.hwr, x.hrw, x.hp, 0, (bI σ.go.isSome), x.wl, (nI σ.nd), σ.stp, a2x, vp2, k2, kb2, x.q, x.ku, x.kf, x.kc, f2, fb2, x.g, x.fu, x.ff, x.fc) ds = ([(h0, .inr (0, [.ref x.hd, .ref x.hb1, .ref x.hf, .ref x.hc, .ref x.hmk, .ref x.hwr, .ref x.hp, .int (nI σ.nd), .int σ.stp])), (x.hp, .inr (4, [.int 0, .int (bI σ.go.isSome), .int x.wl])), (x.hd, .inl (cD, 8, .inr (.inr (.inr (.inr ((dsA ds))))))), (x.hmk, .inr (2, [.ref hba2, .ref hta2, vp2, .int a2x])), (hta2, .inr (1, [.ref hty2, .int (nI k2)])), (hty2, .inl (cB, 256, .inl (f2))), (hba2, .inr (1, [.ref hby2, .int (nI kb2)])), (hby2, .inl (cB, 256, .inl (fb2))), (x.hwr, .inr (3, [.ref x.hrw, .int (nI x.q)])), (x.hrw, .inl (cB, 512, .inl (x.g))), (x.hb1, .inr (1, [.ref x.hy, .int (nI x.ku)])), (x.hy, .inl (cB, 256, .inl (x.fu))), (x.hf, .inr (1, [.ref x.hfy, .int (nI x.kf)])), (x.hfy, .inl (cB, 256, .inl (x.ff))), (x.hc, .inr (1, [.ref x.hcy, .int (nI x.kc)])), (x.hcy, .inl (cB, 256, .inl (x.fc)))] : va_W) ++ pW cB cR ds)).trans (kmp (X1 := [(h0, .inr (0, [.ref x.hd, .ref x.hb1, .ref x.hf, .ref x.hc, .ref x.hmk, .ref x.hwr, .ref x.hp, .int (nI σ.nd), .int σ.stp])), (x.hp, .inr (4, [.int 0, .int (bI σ.go.isSome), .int x.wl])), (x.hd, .inl (cD, 8, .inr (.inr (.inr (.inr ((dsA ds))))))), (x.hmk, .inr (2, [.ref hba2, .ref hta2, vp2, .int a2x])), (hta2, .inr (1, [.ref hty2, .int (nI k2)])), (hty2, .inl (cB, 256, .inl (f2))), (hba2, .inr (1, [.ref hby2, .int (nI kb2)])), (hby2, .inl (cB, 256, .inl (fb2))), (x.hc, .inr (1, [.ref x.hcy, .int (nI x.kc)])), (x.hcy, .inl (cB, 256, .inl (x.fc)))]) (X2 := [(x.hwr, .inr (3, [.ref x.hrw, .int (nI x.q)])), (x.hrw, .inl (cB, 512, .inl (x.g))), (x.hb1, .inr (1, [.ref x.hy, .int (nI x.ku)])), (x.hy, .inl (cB, 256, .inl (x.fu))), (x.hf, .inr (1, [.ref x.hfy, .int (nI x.kf)])), (x.hfy, .inl (cB, 256, .inl (x.ff)))]) (pick [0, 1, 2, 3, 4, 5, 6, 7, 14, 15, 8, 9, 10, 11, 12, 13] 16 rfl rfl rfl) (pW_take hi8 hdi))))⟩
            | some X9 =>
              have hag1 := hag
              cases hag2 : agn (rvP d.rv) r8 with
              | none =>
                have hst : (sCommon σ (nI i) (nI r9) (nI r8) a4) = (σ, 0, -2) := by unfold sCommon; rw [if_neg hndn, hd]; refine (if_neg (fun z => z.elim hna (fun z => z.elim hna2 (fun z => z hw4)))).trans ?_; rw [dmP_M, hc9, hc8, hag, hag2]
                rw [hst]
                refine kRet (g_common_B2 l dC dI sz h0 (.ref x.hb1) (.ref x.hf) (.ref x.hwr) (nI σ.nd) σ.stp x.hp (bI σ.go.isSome) x.wl x.hmk x.hd cD (dsA ds) x.hta x.hty x.hba x.hby cB x.k x.f x.kb x.fb x.vp x.a0 T Bs x.hc x.hcy x.kc x.fc F d.a d.ra cR d.first d.count d.rv (rvW cB d.rv ++ pW cB cR (va_up ds i none)) (nI i) r9 r8 a4 X9 hmt hmt2 hmb hmb2 hcm hdS hc64 ha1 ha2 ha3 ha4 plR_of hok hw4 hag1 hag2) (by decide) ((List.Perm.of_eq hW).trans (kmp (X1 := [(h0, .inr (0, [.ref x.hd, .ref x.hb1, .ref x.hf, .ref x.hc, .ref x.hmk, .ref x.hwr, .ref x.hp, .int (nI σ.nd), .int σ.stp])), (x.hp, .inr (4, [.int 0, .int (bI σ.go.isSome), .int x.wl])), (x.hd, .inl (cD, 8, .inr (.inr (.inr (.inr ((dsA ds))))))), (x.hmk, .inr (2, [.ref x.hba, .ref x.hta, x.vp, .int x.a0])), (x.hta, .inr (1, [.ref x.hty, .int (nI x.k)])), (x.hty, .inl (cB, 256, .inl (x.f))), (x.hba, .inr (1, [.ref x.hby, .int (nI x.kb)])), (x.hby, .inl (cB, 256, .inl (x.fb))), (x.hc, .inr (1, [.ref x.hcy, .int (nI x.kc)])), (x.hcy, .inl (cB, 256, .inl (x.fc)))]) (X2 := [(x.hwr, .inr (3, [.ref x.hrw, .int (nI x.q)])), (x.hrw, .inl (cB, 512, .inl (x.g))), (x.hb1, .inr (1, [.ref x.hy, .int (nI x.ku)])), (x.hy, .inl (cB, 256, .inl (x.fu))), (x.hf, .inr (1, [.ref x.hfy, .int (nI x.kf)])), (x.hfy, .inl (cB, 256, .inl (x.ff)))]) (pick [0, 1, 2, 3, 4, 5, 6, 7, 14, 15, 8, 9, 10, 11, 12, 13] 16 rfl rfl rfl) (pW_take hi8 hdi))) [1, 2, 0] rfl (fun r h => ⟨rfl, h⟩) (fun t hb fr => ?_)
                obtain ⟨hta2, hty2, hba2, hby2, k2, f2, kb2, fb2, vp2, a2x, B2, T2, kf2, fc2, hu, hat⟩ := hb
                exact ⟨(x.hd, x.hb1, x.hy, x.hf, x.hfy, x.hc, x.hcy, x.hmk, hta2, hty2, hba2, hby2, x.hwr, x.hrw, x.hp, 0, (bI σ.go.isSome), x.wl, (nI σ.nd), σ.stp, a2x, vp2, k2, kb2, x.q, x.ku, x.kf, kf2, f2, fb2, x.g, x.fu, x.ff, fc2), ds, (kOk.mk hd0 (fun _ => ⟨rfl, hgw⟩) rfl rfl hk.ds hk.ok hk.kp hk.bu hk.fe ⟨T2, hu.1.1⟩ ⟨B2, hu.1.2⟩ ⟨X9, hu.2⟩), fr _ _ _ hat (kz ((List.Perm.of_eq (rfl : kW h0 cB cD cR (x.hd, x.hb1, x.hy, x.hf, x.hfy, x.hc, x.hcy, x.hmk, hta2, hty2, hba2, hby2, x.hwr, x.hrw, x.hp, 0, (bI σ.go.isSome), x.wl, (nI σ.nd), σ.stp, a2x, vp2, k2, kb2, x.q, x.ku, x.kf, kf2, f2, fb2, x.g, x.fu, x.ff, fc2) ds = ([(h0, .inr (0, [.ref x.hd, .ref x.hb1, .ref x.hf, .ref x.hc, .ref x.hmk, .ref x.hwr, .ref x.hp, .int (nI σ.nd), .int σ.stp])), (x.hp, .inr (4, [.int 0, .int (bI σ.go.isSome), .int x.wl])), (x.hd, .inl (cD, 8, .inr (.inr (.inr (.inr ((dsA ds))))))), (x.hmk, .inr (2, [.ref hba2, .ref hta2, vp2, .int a2x])), (hta2, .inr (1, [.ref hty2, .int (nI k2)])), (hty2, .inl (cB, 256, .inl (f2))), (hba2, .inr (1, [.ref hby2, .int (nI kb2)])), (hby2, .inl (cB, 256, .inl (fb2))), (x.hwr, .inr (3, [.ref x.hrw, .int (nI x.q)])), (x.hrw, .inl (cB, 512, .inl (x.g))), (x.hb1, .inr (1, [.ref x.hy, .int (nI x.ku)])), (x.hy, .inl (cB, 256, .inl (x.fu))), (x.hf, .inr (1, [.ref x.hfy, .int (nI x.kf)])), (x.hfy, .inl (cB, 256, .inl (x.ff))), (x.hc, .inr (1, [.ref x.hcy, .int (nI kf2)])), (x.hcy, .inl (cB, 256, .inl (fc2)))] : va_W) ++ pW cB cR ds)).trans (kmp (X1 := [(h0, .inr (0, [.ref x.hd, .ref x.hb1, .ref x.hf, .ref x.hc, .ref x.hmk, .ref x.hwr, .ref x.hp, .int (nI σ.nd), .int σ.stp])), (x.hp, .inr (4, [.int 0, .int (bI σ.go.isSome), .int x.wl])), (x.hd, .inl (cD, 8, .inr (.inr (.inr (.inr ((dsA ds))))))), (x.hmk, .inr (2, [.ref hba2, .ref hta2, vp2, .int a2x])), (hta2, .inr (1, [.ref hty2, .int (nI k2)])), (hty2, .inl (cB, 256, .inl (f2))), (hba2, .inr (1, [.ref hby2, .int (nI kb2)])), (hby2, .inl (cB, 256, .inl (fb2))), (x.hc, .inr (1, [.ref x.hcy, .int (nI kf2)])), (x.hcy, .inl (cB, 256, .inl (fc2)))]) (X2 := [(x.hwr, .inr (3, [.ref x.hrw, .int (nI x.q)])), (x.hrw, .inl (cB, 512, .inl (x.g))), (x.hb1, .inr (1, [.ref x.hy, .int (nI x.ku)])), (x.hy, .inl (cB, 256, .inl (x.fu))), (x.hf, .inr (1, [.ref x.hfy, .int (nI x.kf)])), (x.hfy, .inl (cB, 256, .inl (x.ff)))]) (pick [0, 1, 2, 3, 4, 5, 6, 7, 14, 15, 8, 9, 10, 11, 12, 13] 16 rfl rfl rfl) (pW_take hi8 hdi))))⟩
              | some Y =>
                have hst : (sCommon σ (nI i) (nI r9) (nI r8) a4) = (σ, 0, nI (if a4 = 0 then cpl X9 Y else cpb X9 Y)) := by unfold sCommon; rw [if_neg hndn, hd]; refine (if_neg (fun z => z.elim hna (fun z => z.elim hna2 (fun z => z hw4)))).trans ?_; rw [dmP_M, hc9, hc8, hag, hag2]
                rw [hst]
                refine kRet (g_common_T l dC dI sz h0 (.ref x.hb1) (.ref x.hf) (.ref x.hwr) (nI σ.nd) σ.stp x.hp (bI σ.go.isSome) x.wl x.hmk x.hd cD (dsA ds) x.hta x.hty x.hba x.hby cB x.k x.f x.kb x.fb x.vp x.a0 T Bs x.hc x.hcy x.kc x.fc F d.a d.ra cR d.first d.count d.rv (rvW cB d.rv ++ pW cB cR (va_up ds i none)) (nI i) r9 r8 a4 X9 Y hmt hmt2 hmb hmb2 hcm hdS hc64 ha1 ha2 ha3 ha4 plR_of hok hw4 hag1 hag2) (by decide) ((List.Perm.of_eq hW).trans (kmp (X1 := [(h0, .inr (0, [.ref x.hd, .ref x.hb1, .ref x.hf, .ref x.hc, .ref x.hmk, .ref x.hwr, .ref x.hp, .int (nI σ.nd), .int σ.stp])), (x.hp, .inr (4, [.int 0, .int (bI σ.go.isSome), .int x.wl])), (x.hd, .inl (cD, 8, .inr (.inr (.inr (.inr ((dsA ds))))))), (x.hmk, .inr (2, [.ref x.hba, .ref x.hta, x.vp, .int x.a0])), (x.hta, .inr (1, [.ref x.hty, .int (nI x.k)])), (x.hty, .inl (cB, 256, .inl (x.f))), (x.hba, .inr (1, [.ref x.hby, .int (nI x.kb)])), (x.hby, .inl (cB, 256, .inl (x.fb))), (x.hc, .inr (1, [.ref x.hcy, .int (nI x.kc)])), (x.hcy, .inl (cB, 256, .inl (x.fc)))]) (X2 := [(x.hwr, .inr (3, [.ref x.hrw, .int (nI x.q)])), (x.hrw, .inl (cB, 512, .inl (x.g))), (x.hb1, .inr (1, [.ref x.hy, .int (nI x.ku)])), (x.hy, .inl (cB, 256, .inl (x.fu))), (x.hf, .inr (1, [.ref x.hfy, .int (nI x.kf)])), (x.hfy, .inl (cB, 256, .inl (x.ff)))]) (pick [0, 1, 2, 3, 4, 5, 6, 7, 14, 15, 8, 9, 10, 11, 12, 13] 16 rfl rfl rfl) (pW_take hi8 hdi))) [1, 2, 0] rfl (fun r h => ⟨rfl, h⟩) (fun t hb fr => ?_)
                obtain ⟨hta2, hty2, hba2, hby2, k2, f2, kb2, fb2, vp2, a2x, B2, kf2, fc2, hu, hat⟩ := hb
                exact ⟨(x.hd, x.hb1, x.hy, x.hf, x.hfy, x.hc, x.hcy, x.hmk, hta2, hty2, hba2, hby2, x.hwr, x.hrw, x.hp, 0, (bI σ.go.isSome), x.wl, (nI σ.nd), σ.stp, a2x, vp2, k2, kb2, x.q, x.ku, x.kf, kf2, f2, fb2, x.g, x.fu, x.ff, fc2), ds, (kOk.mk hd0 (fun _ => ⟨rfl, hgw⟩) rfl rfl hk.ds hk.ok hk.kp hk.bu hk.fe ⟨Y, hu.1.1⟩ ⟨B2, hu.1.2⟩ ⟨X9, hu.2⟩), fr _ _ _ hat (kz ((List.Perm.of_eq (rfl : kW h0 cB cD cR (x.hd, x.hb1, x.hy, x.hf, x.hfy, x.hc, x.hcy, x.hmk, hta2, hty2, hba2, hby2, x.hwr, x.hrw, x.hp, 0, (bI σ.go.isSome), x.wl, (nI σ.nd), σ.stp, a2x, vp2, k2, kb2, x.q, x.ku, x.kf, kf2, f2, fb2, x.g, x.fu, x.ff, fc2) ds = ([(h0, .inr (0, [.ref x.hd, .ref x.hb1, .ref x.hf, .ref x.hc, .ref x.hmk, .ref x.hwr, .ref x.hp, .int (nI σ.nd), .int σ.stp])), (x.hp, .inr (4, [.int 0, .int (bI σ.go.isSome), .int x.wl])), (x.hd, .inl (cD, 8, .inr (.inr (.inr (.inr ((dsA ds))))))), (x.hmk, .inr (2, [.ref hba2, .ref hta2, vp2, .int a2x])), (hta2, .inr (1, [.ref hty2, .int (nI k2)])), (hty2, .inl (cB, 256, .inl (f2))), (hba2, .inr (1, [.ref hby2, .int (nI kb2)])), (hby2, .inl (cB, 256, .inl (fb2))), (x.hwr, .inr (3, [.ref x.hrw, .int (nI x.q)])), (x.hrw, .inl (cB, 512, .inl (x.g))), (x.hb1, .inr (1, [.ref x.hy, .int (nI x.ku)])), (x.hy, .inl (cB, 256, .inl (x.fu))), (x.hf, .inr (1, [.ref x.hfy, .int (nI x.kf)])), (x.hfy, .inl (cB, 256, .inl (x.ff))), (x.hc, .inr (1, [.ref x.hcy, .int (nI kf2)])), (x.hcy, .inl (cB, 256, .inl (fc2)))] : va_W) ++ pW cB cR ds)).trans (kmp (X1 := [(h0, .inr (0, [.ref x.hd, .ref x.hb1, .ref x.hf, .ref x.hc, .ref x.hmk, .ref x.hwr, .ref x.hp, .int (nI σ.nd), .int σ.stp])), (x.hp, .inr (4, [.int 0, .int (bI σ.go.isSome), .int x.wl])), (x.hd, .inl (cD, 8, .inr (.inr (.inr (.inr ((dsA ds))))))), (x.hmk, .inr (2, [.ref hba2, .ref hta2, vp2, .int a2x])), (hta2, .inr (1, [.ref hty2, .int (nI k2)])), (hty2, .inl (cB, 256, .inl (f2))), (hba2, .inr (1, [.ref hby2, .int (nI kb2)])), (hby2, .inl (cB, 256, .inl (fb2))), (x.hc, .inr (1, [.ref x.hcy, .int (nI kf2)])), (x.hcy, .inl (cB, 256, .inl (fc2)))]) (X2 := [(x.hwr, .inr (3, [.ref x.hrw, .int (nI x.q)])), (x.hrw, .inl (cB, 512, .inl (x.g))), (x.hb1, .inr (1, [.ref x.hy, .int (nI x.ku)])), (x.hy, .inl (cB, 256, .inl (x.fu))), (x.hf, .inr (1, [.ref x.hfy, .int (nI x.kf)])), (x.hfy, .inl (cB, 256, .inl (x.ff)))]) (pick [0, 1, 2, 3, 4, 5, 6, 7, 14, 15, 8, 9, 10, 11, 12, 13] 16 rfl rfl rfl) (pW_take hi8 hdi))))⟩
          · have hst : (sCommon σ (nI i) (nI r9) (nI r8) a4) = (σ, 0, -1) := by unfold sCommon; rw [if_neg hndn, hd]; exact if_pos (Or.inr (Or.inr hw4))
            rw [hst]
            exact kPure (g_common_W l dC dI h0 (.ref x.hb1) (.ref x.hf) (.ref x.hc) (.ref x.hmk) (.ref x.hwr) (nI σ.nd) σ.stp x.hp (bI σ.go.isSome) x.wl x.hd cD (dsA ds) d.a d.ra cR d.first d.count (rvA d.rv) (nI i) r9 r8 a4 hdS hc64 ha1 ha2 ha3 ha4 hw4) (by decide) ((List.Perm.of_eq hW).trans (km (X1 := [(h0, .inr (0, [.ref x.hd, .ref x.hb1, .ref x.hf, .ref x.hc, .ref x.hmk, .ref x.hwr, .ref x.hp, .int (nI σ.nd), .int σ.stp])), (x.hp, .inr (4, [.int 0, .int (bI σ.go.isSome), .int x.wl])), (x.hd, .inl (cD, 8, .inr (.inr (.inr (.inr ((dsA ds)))))))]) (X2 := [(x.hmk, .inr (2, [.ref x.hba, .ref x.hta, x.vp, .int x.a0])), (x.hta, .inr (1, [.ref x.hty, .int (nI x.k)])), (x.hty, .inl (cB, 256, .inl (x.f))), (x.hba, .inr (1, [.ref x.hby, .int (nI x.kb)])), (x.hby, .inl (cB, 256, .inl (x.fb))), (x.hwr, .inr (3, [.ref x.hrw, .int (nI x.q)])), (x.hrw, .inl (cB, 512, .inl (x.g))), (x.hb1, .inr (1, [.ref x.hy, .int (nI x.ku)])), (x.hy, .inl (cB, 256, .inl (x.fu))), (x.hf, .inr (1, [.ref x.hfy, .int (nI x.kf)])), (x.hfy, .inl (cB, 256, .inl (x.ff))), (x.hc, .inr (1, [.ref x.hcy, .int (nI x.kc)])), (x.hcy, .inl (cB, 256, .inl (x.fc)))]) (pick [0, 1, 2, 3, 4, 5, 6, 7, 8, 9, 10, 11, 12, 13, 14, 15] 16 rfl rfl rfl) (pW_take hi8 hdi))) [1, 2] rfl hk
set_option maxHeartbeats 4000000 in
set_option maxRecDepth 100000 in
theorem k_commit (l : Launch) (hl9 : l.stackTraces = false) (dC : Nat → ClassId) (dI : Nat → Nat → Nat) (sz : Nat) (h0 : Nat) (cB cD cR : ClassId) (x : KX) (ds : Nat → Option Dc) (σ : Sg) (a1 : Int32) (a2 : Int32) (hs : sOk σ) (hk : kOk σ x ds) : kMet l y_K_commit k_K_commit ex1 (dC, dI) sz h0 cB cD cR x ds [.ref h0, .int a1, .int a2] (sCommit σ a1 a2) := by
  cases hdn : σ.down with
  | true =>
    have hW : kW h0 cB cD cR x ds = ([(h0, .inr (0, [.ref x.hd, .ref x.hb1, .ref x.hf, .ref x.hc, .ref x.hmk, .ref x.hwr, .ref x.hp, .int x.md, .int x.fs])), (x.hp, .inr (4, [.int 1, .int x.gi, .int x.wl])), (x.hd, .inl (cD, 8, .inr (.inr (.inr (.inr ((dsA ds))))))), (x.hmk, .inr (2, [.ref x.hba, .ref x.hta, x.vp, .int x.a0])), (x.hta, .inr (1, [.ref x.hty, .int (nI x.k)])), (x.hty, .inl (cB, 256, .inl (x.f))), (x.hba, .inr (1, [.ref x.hby, .int (nI x.kb)])), (x.hby, .inl (cB, 256, .inl (x.fb))), (x.hwr, .inr (3, [.ref x.hrw, .int (nI x.q)])), (x.hrw, .inl (cB, 512, .inl (x.g))), (x.hb1, .inr (1, [.ref x.hy, .int (nI x.ku)])), (x.hy, .inl (cB, 256, .inl (x.fu))), (x.hf, .inr (1, [.ref x.hfy, .int (nI x.kf)])), (x.hfy, .inl (cB, 256, .inl (x.ff))), (x.hc, .inr (1, [.ref x.hcy, .int (nI x.kc)])), (x.hcy, .inl (cB, 256, .inl (x.fc)))] : va_W) ++ pW cB cR ds := by unfold kW; rw [hk.dw, hdn]; rfl
    have hst : (sCommit σ a1 a2) = (σ, 1, 0) := by unfold sCommit; rw [if_pos hdn]
    rw [hst]
    exact kDown (x_commit_D l hl9 dC dI sz h0 (.ref x.hd) (.ref x.hb1) (.ref x.hf) (.ref x.hc) (.ref x.hmk) (.ref x.hwr) x.md x.fs x.hp x.gi x.wl a1 a2) (by decide) ((List.Perm.of_eq hW).trans (km0 (X1 := [(h0, .inr (0, [.ref x.hd, .ref x.hb1, .ref x.hf, .ref x.hc, .ref x.hmk, .ref x.hwr, .ref x.hp, .int x.md, .int x.fs])), (x.hp, .inr (4, [.int 1, .int x.gi, .int x.wl]))]) (X2 := [(x.hd, .inl (cD, 8, .inr (.inr (.inr (.inr ((dsA ds))))))), (x.hmk, .inr (2, [.ref x.hba, .ref x.hta, x.vp, .int x.a0])), (x.hta, .inr (1, [.ref x.hty, .int (nI x.k)])), (x.hty, .inl (cB, 256, .inl (x.f))), (x.hba, .inr (1, [.ref x.hby, .int (nI x.kb)])), (x.hby, .inl (cB, 256, .inl (x.fb))), (x.hwr, .inr (3, [.ref x.hrw, .int (nI x.q)])), (x.hrw, .inl (cB, 512, .inl (x.g))), (x.hb1, .inr (1, [.ref x.hy, .int (nI x.ku)])), (x.hy, .inl (cB, 256, .inl (x.fu))), (x.hf, .inr (1, [.ref x.hfy, .int (nI x.kf)])), (x.hfy, .inl (cB, 256, .inl (x.ff))), (x.hc, .inr (1, [.ref x.hcy, .int (nI x.kc)])), (x.hcy, .inl (cB, 256, .inl (x.fc)))]) (pick [0, 1, 2, 3, 4, 5, 6, 7, 8, 9, 10, 11, 12, 13, 14, 15] 16 rfl rfl rfl))) [] rfl hk (by decide) rfl
  | false =>
    obtain ⟨hgi, hgw⟩ := hk.gi hdn
    have hg : ∀ w, σ.go = some w → x.wl = nI w ∧ w < 2 ^ 31 := fun w h => ⟨hgw w h, hs.go w h⟩
    have hd0 : (0 : Int32) = bI σ.down := by rw [hdn]; rfl
    have hndn : ¬ σ.down = true := by rw [hdn]; decide
    have hW : kW h0 cB cD cR x ds = ([(h0, .inr (0, [.ref x.hd, .ref x.hb1, .ref x.hf, .ref x.hc, .ref x.hmk, .ref x.hwr, .ref x.hp, .int (nI σ.nd), .int σ.stp])), (x.hp, .inr (4, [.int 0, .int (bI σ.go.isSome), .int x.wl])), (x.hd, .inl (cD, 8, .inr (.inr (.inr (.inr ((dsA ds))))))), (x.hmk, .inr (2, [.ref x.hba, .ref x.hta, x.vp, .int x.a0])), (x.hta, .inr (1, [.ref x.hty, .int (nI x.k)])), (x.hty, .inl (cB, 256, .inl (x.f))), (x.hba, .inr (1, [.ref x.hby, .int (nI x.kb)])), (x.hby, .inl (cB, 256, .inl (x.fb))), (x.hwr, .inr (3, [.ref x.hrw, .int (nI x.q)])), (x.hrw, .inl (cB, 512, .inl (x.g))), (x.hb1, .inr (1, [.ref x.hy, .int (nI x.ku)])), (x.hy, .inl (cB, 256, .inl (x.fu))), (x.hf, .inr (1, [.ref x.hfy, .int (nI x.kf)])), (x.hfy, .inl (cB, 256, .inl (x.ff))), (x.hc, .inr (1, [.ref x.hcy, .int (nI x.kc)])), (x.hcy, .inl (cB, 256, .inl (x.fc)))] : va_W) ++ pW cB cR ds := by unfold kW; rw [hk.dw, hdn, hgi, hk.md, hk.fs]; rfl
    cases hd : dGet σ.ds a1 with
    | none =>
      have hdN := kdocN hk hd
      have hst : (sCommit σ a1 a2) = (σ, 0, -1) := by unfold sCommit; rw [if_neg hndn, hd]
      rw [hst]
      exact kPure (g_commit_N l dC dI h0 (.ref x.hb1) (.ref x.hf) (.ref x.hc) (.ref x.hmk) (.ref x.hwr) (nI σ.nd) σ.stp x.hp (bI σ.go.isSome) x.wl x.hd cD (dsA ds) a1 a2 hdN) (by decide) ((List.Perm.of_eq hW).trans (km0 (X1 := [(h0, .inr (0, [.ref x.hd, .ref x.hb1, .ref x.hf, .ref x.hc, .ref x.hmk, .ref x.hwr, .ref x.hp, .int (nI σ.nd), .int σ.stp])), (x.hp, .inr (4, [.int 0, .int (bI σ.go.isSome), .int x.wl])), (x.hd, .inl (cD, 8, .inr (.inr (.inr (.inr ((dsA ds)))))))]) (X2 := [(x.hmk, .inr (2, [.ref x.hba, .ref x.hta, x.vp, .int x.a0])), (x.hta, .inr (1, [.ref x.hty, .int (nI x.k)])), (x.hty, .inl (cB, 256, .inl (x.f))), (x.hba, .inr (1, [.ref x.hby, .int (nI x.kb)])), (x.hby, .inl (cB, 256, .inl (x.fb))), (x.hwr, .inr (3, [.ref x.hrw, .int (nI x.q)])), (x.hrw, .inl (cB, 512, .inl (x.g))), (x.hb1, .inr (1, [.ref x.hy, .int (nI x.ku)])), (x.hy, .inl (cB, 256, .inl (x.fu))), (x.hf, .inr (1, [.ref x.hfy, .int (nI x.kf)])), (x.hfy, .inl (cB, 256, .inl (x.ff))), (x.hc, .inr (1, [.ref x.hcy, .int (nI x.kc)])), (x.hcy, .inl (cB, 256, .inl (x.fc)))]) (pick [0, 1, 2, 3, 4, 5, 6, 7, 8, 9, 10, 11, 12, 13, 14, 15] 16 rfl rfl rfl))) [1] rfl hk
    | some p =>
      obtain ⟨i, dm⟩ := p
      obtain ⟨d, hi8, rfl, hdi, rfl, hdS, hc64, hok, hkp, hdm⟩ := kdocS hs hk hd
      have hfd : d.first ≤ d.count := hdm.1
      by_cases q : (dcM d).count = 64
      · have hst : (sCommit σ (nI i) a2) = (σ, 0, -1) := by unfold sCommit; rw [if_neg hndn, hd]; exact if_pos q
        rw [hst]
        exact kPure (g_commit_U l dC dI h0 (.ref x.hb1) (.ref x.hf) (.ref x.hc) (.ref x.hmk) (.ref x.hwr) (nI σ.nd) σ.stp x.hp (bI σ.go.isSome) x.wl x.hd cD (dsA ds) d.a d.ra cR d.first d.count (rvA d.rv) (nI i) a2 hdS hc64 q) (by decide) ((List.Perm.of_eq hW).trans (km (X1 := [(h0, .inr (0, [.ref x.hd, .ref x.hb1, .ref x.hf, .ref x.hc, .ref x.hmk, .ref x.hwr, .ref x.hp, .int (nI σ.nd), .int σ.stp])), (x.hp, .inr (4, [.int 0, .int (bI σ.go.isSome), .int x.wl])), (x.hd, .inl (cD, 8, .inr (.inr (.inr (.inr ((dsA ds)))))))]) (X2 := [(x.hmk, .inr (2, [.ref x.hba, .ref x.hta, x.vp, .int x.a0])), (x.hta, .inr (1, [.ref x.hty, .int (nI x.k)])), (x.hty, .inl (cB, 256, .inl (x.f))), (x.hba, .inr (1, [.ref x.hby, .int (nI x.kb)])), (x.hby, .inl (cB, 256, .inl (x.fb))), (x.hwr, .inr (3, [.ref x.hrw, .int (nI x.q)])), (x.hrw, .inl (cB, 512, .inl (x.g))), (x.hb1, .inr (1, [.ref x.hy, .int (nI x.ku)])), (x.hy, .inl (cB, 256, .inl (x.fu))), (x.hf, .inr (1, [.ref x.hfy, .int (nI x.kf)])), (x.hfy, .inl (cB, 256, .inl (x.ff))), (x.hc, .inr (1, [.ref x.hcy, .int (nI x.kc)])), (x.hcy, .inl (cB, 256, .inl (x.fc)))]) (pick [0, 1, 2, 3, 4, 5, 6, 7, 8, 9, 10, 11, 12, 13, 14, 15] 16 rfl rfl rfl) (pW_take hi8 hdi))) [1, 2] rfl hk
      · have hlt64 : d.count < 64 := by have h9 : ¬ d.count = 64 := q; omega
        have hus : cfr ds 8 ≤ 512 := by rw [← kus hk]; exact hs.us
        have hnone : d.rv d.count = none := kno hdm
        obtain ⟨T, hmt, hmt2⟩ := hk.mt
        obtain ⟨Bs, hmb, hmb2⟩ := hk.mb
        cases hbz : basR d.rv d.count with
        | none =>
          have hst : (sCommit σ (nI i) a2) = (σ, 0, -1) := by unfold sCommit; rw [if_neg hndn, hd]; refine (if_neg q).trans ?_; rw [bas_M, hbz]
          rw [hst]
          refine kRet (g_commit_B l dC dI sz h0 (.ref x.hf) (.ref x.hc) (nI σ.nd) σ.stp x.hp σ.go x.wl x.hd cD ds x.hmk x.hta x.hty x.hba x.hby cB x.k x.f x.kb x.fb x.vp x.a0 T Bs x.hwr x.hrw x.q x.g x.hb1 x.hy x.ku x.fu σ.buf d.a d.ra cR d.first d.count d.rv (rvW cB d.rv ++ pW cB cR (va_up ds i none)) i a2 hg hmt hmt2 hmb hmb2 hk.bu.1 hk.bu.2 hi8 hdi hlt64 plR_of hok (kpd hi8 hdi) hk.ok hus hbz) (by decide) ((List.Perm.of_eq hW).trans (kmp (X1 := [(h0, .inr (0, [.ref x.hd, .ref x.hb1, .ref x.hf, .ref x.hc, .ref x.hmk, .ref x.hwr, .ref x.hp, .int (nI σ.nd), .int σ.stp])), (x.hp, .inr (4, [.int 0, .int (bI σ.go.isSome), .int x.wl])), (x.hd, .inl (cD, 8, .inr (.inr (.inr (.inr ((dsA ds))))))), (x.hmk, .inr (2, [.ref x.hba, .ref x.hta, x.vp, .int x.a0])), (x.hta, .inr (1, [.ref x.hty, .int (nI x.k)])), (x.hty, .inl (cB, 256, .inl (x.f))), (x.hba, .inr (1, [.ref x.hby, .int (nI x.kb)])), (x.hby, .inl (cB, 256, .inl (x.fb))), (x.hwr, .inr (3, [.ref x.hrw, .int (nI x.q)])), (x.hrw, .inl (cB, 512, .inl (x.g))), (x.hb1, .inr (1, [.ref x.hy, .int (nI x.ku)])), (x.hy, .inl (cB, 256, .inl (x.fu)))]) (X2 := [(x.hf, .inr (1, [.ref x.hfy, .int (nI x.kf)])), (x.hfy, .inl (cB, 256, .inl (x.ff))), (x.hc, .inr (1, [.ref x.hcy, .int (nI x.kc)])), (x.hcy, .inl (cB, 256, .inl (x.fc)))]) (pick [0, 1, 2, 3, 4, 5, 6, 7, 8, 9, 10, 11, 12, 13, 14, 15] 16 rfl rfl rfl) (pW_take hi8 hdi))) [1, 2, 0] rfl (fun r h => ⟨rfl, h⟩) (fun t hb fr => ?_)
          obtain ⟨hta2, hty2, hba2, hby2, k2, f2, kb2, fb2, vp2, a2x, B2, T2, hu, hat⟩ := hb
          exact ⟨(x.hd, x.hb1, x.hy, x.hf, x.hfy, x.hc, x.hcy, x.hmk, hta2, hty2, hba2, hby2, x.hwr, x.hrw, x.hp, 0, (bI σ.go.isSome), x.wl, (nI σ.nd), σ.stp, a2x, vp2, k2, kb2, x.q, x.ku, x.kf, x.kc, f2, fb2, x.g, x.fu, x.ff, x.fc), ds, (kOk.mk hd0 (fun _ => ⟨rfl, hgw⟩) rfl rfl hk.ds hk.ok hk.kp hk.bu hk.fe ⟨T2, hu.1⟩ ⟨B2, hu.2⟩ hk.cm), fr _ _ _ hat (kz ((List.Perm.of_eq (rfl : kW h0 cB cD cR (x.hd, x.hb1, x.hy, x.hf, x.hfy, x.hc, x.hcy, x.hmk, hta2, hty2, hba2, hby2, x.hwr, x.hrw, x.hp, 0, (bI σ.go.isSome), x.wl, (nI σ.nd), σ.stp, a2x, vp2, k2, kb2, x.q, x.ku, x.kf, x.kc, f2, fb2, x.g, x.fu, x.ff, x.fc) ds = ([(h0, .inr (0, [.ref x.hd, .ref x.hb1, .ref x.hf, .ref x.hc, .ref x.hmk, .ref x.hwr, .ref x.hp, .int (nI σ.nd), .int σ.stp])), (x.hp, .inr (4, [.int 0, .int (bI σ.go.isSome), .int x.wl])), (x.hd, .inl (cD, 8, .inr (.inr (.inr (.inr ((dsA ds))))))), (x.hmk, .inr (2, [.ref hba2, .ref hta2, vp2, .int a2x])), (hta2, .inr (1, [.ref hty2, .int (nI k2)])), (hty2, .inl (cB, 256, .inl (f2))), (hba2, .inr (1, [.ref hby2, .int (nI kb2)])), (hby2, .inl (cB, 256, .inl (fb2))), (x.hwr, .inr (3, [.ref x.hrw, .int (nI x.q)])), (x.hrw, .inl (cB, 512, .inl (x.g))), (x.hb1, .inr (1, [.ref x.hy, .int (nI x.ku)])), (x.hy, .inl (cB, 256, .inl (x.fu))), (x.hf, .inr (1, [.ref x.hfy, .int (nI x.kf)])), (x.hfy, .inl (cB, 256, .inl (x.ff))), (x.hc, .inr (1, [.ref x.hcy, .int (nI x.kc)])), (x.hcy, .inl (cB, 256, .inl (x.fc)))] : va_W) ++ pW cB cR ds)).trans (kmp (X1 := [(h0, .inr (0, [.ref x.hd, .ref x.hb1, .ref x.hf, .ref x.hc, .ref x.hmk, .ref x.hwr, .ref x.hp, .int (nI σ.nd), .int σ.stp])), (x.hp, .inr (4, [.int 0, .int (bI σ.go.isSome), .int x.wl])), (x.hd, .inl (cD, 8, .inr (.inr (.inr (.inr ((dsA ds))))))), (x.hmk, .inr (2, [.ref hba2, .ref hta2, vp2, .int a2x])), (hta2, .inr (1, [.ref hty2, .int (nI k2)])), (hty2, .inl (cB, 256, .inl (f2))), (hba2, .inr (1, [.ref hby2, .int (nI kb2)])), (hby2, .inl (cB, 256, .inl (fb2))), (x.hwr, .inr (3, [.ref x.hrw, .int (nI x.q)])), (x.hrw, .inl (cB, 512, .inl (x.g))), (x.hb1, .inr (1, [.ref x.hy, .int (nI x.ku)])), (x.hy, .inl (cB, 256, .inl (x.fu)))]) (X2 := [(x.hf, .inr (1, [.ref x.hfy, .int (nI x.kf)])), (x.hfy, .inl (cB, 256, .inl (x.ff))), (x.hc, .inr (1, [.ref x.hcy, .int (nI x.kc)])), (x.hcy, .inl (cB, 256, .inl (x.fc)))]) (pick [0, 1, 2, 3, 4, 5, 6, 7, 8, 9, 10, 11, 12, 13, 14, 15] 16 rfl rfl rfl) (pW_take hi8 hdi))))⟩
        | some Y =>
          by_cases q2 : 512 < usd σ.ds 8 + blk (pce σ.buf Y).length
          · have hst : (sCommit σ (nI i) a2) = (σ, 0, -1) := by unfold sCommit; rw [if_neg hndn, hd]; refine (if_neg q).trans ?_; rw [bas_M, hbz]; exact if_pos q2
            rw [hst]
            rw [kus hk] at q2
            refine kRet (g_commit_R l dC dI sz h0 (.ref x.hf) (.ref x.hc) (nI σ.nd) σ.stp x.hp σ.go x.wl x.hd cD ds x.hmk x.hta x.hty x.hba x.hby cB x.k x.f x.kb x.fb x.vp x.a0 T Bs x.hwr x.hrw x.q x.g x.hb1 x.hy x.ku x.fu σ.buf d.a d.ra cR d.first d.count d.rv (rvW cB d.rv ++ pW cB cR (va_up ds i none)) i a2 Y hg hmt hmt2 hmb hmb2 hk.bu.1 hk.bu.2 hi8 hdi hlt64 plR_of hok (kpd hi8 hdi) hk.ok hus hbz q2) (by decide) ((List.Perm.of_eq hW).trans (kmp (X1 := [(h0, .inr (0, [.ref x.hd, .ref x.hb1, .ref x.hf, .ref x.hc, .ref x.hmk, .ref x.hwr, .ref x.hp, .int (nI σ.nd), .int σ.stp])), (x.hp, .inr (4, [.int 0, .int (bI σ.go.isSome), .int x.wl])), (x.hd, .inl (cD, 8, .inr (.inr (.inr (.inr ((dsA ds))))))), (x.hmk, .inr (2, [.ref x.hba, .ref x.hta, x.vp, .int x.a0])), (x.hta, .inr (1, [.ref x.hty, .int (nI x.k)])), (x.hty, .inl (cB, 256, .inl (x.f))), (x.hba, .inr (1, [.ref x.hby, .int (nI x.kb)])), (x.hby, .inl (cB, 256, .inl (x.fb))), (x.hwr, .inr (3, [.ref x.hrw, .int (nI x.q)])), (x.hrw, .inl (cB, 512, .inl (x.g))), (x.hb1, .inr (1, [.ref x.hy, .int (nI x.ku)])), (x.hy, .inl (cB, 256, .inl (x.fu)))]) (X2 := [(x.hf, .inr (1, [.ref x.hfy, .int (nI x.kf)])), (x.hfy, .inl (cB, 256, .inl (x.ff))), (x.hc, .inr (1, [.ref x.hcy, .int (nI x.kc)])), (x.hcy, .inl (cB, 256, .inl (x.fc)))]) (pick [0, 1, 2, 3, 4, 5, 6, 7, 8, 9, 10, 11, 12, 13, 14, 15] 16 rfl rfl rfl) (pW_take hi8 hdi))) [1, 2, 0] rfl (fun r h => ⟨rfl, h⟩) (fun t hb fr => ?_)
            obtain ⟨hta2, hty2, hba2, hby2, k2, f2, kb2, fb2, vp2, a2x, B2, q2, g2, hu, hat⟩ := hb
            exact ⟨(x.hd, x.hb1, x.hy, x.hf, x.hfy, x.hc, x.hcy, x.hmk, hta2, hty2, hba2, hby2, x.hwr, x.hrw, x.hp, 0, (bI σ.go.isSome), x.wl, (nI σ.nd), σ.stp, a2x, vp2, k2, kb2, q2, x.ku, x.kf, x.kc, f2, fb2, g2, x.fu, x.ff, x.fc), ds, (kOk.mk hd0 (fun _ => ⟨rfl, hgw⟩) rfl rfl hk.ds hk.ok hk.kp hk.bu hk.fe ⟨Y, hu.1⟩ ⟨B2, hu.2⟩ hk.cm), fr _ _ _ hat (kz ((List.Perm.of_eq (rfl : kW h0 cB cD cR (x.hd, x.hb1, x.hy, x.hf, x.hfy, x.hc, x.hcy, x.hmk, hta2, hty2, hba2, hby2, x.hwr, x.hrw, x.hp, 0, (bI σ.go.isSome), x.wl, (nI σ.nd), σ.stp, a2x, vp2, k2, kb2, q2, x.ku, x.kf, x.kc, f2, fb2, g2, x.fu, x.ff, x.fc) ds = ([(h0, .inr (0, [.ref x.hd, .ref x.hb1, .ref x.hf, .ref x.hc, .ref x.hmk, .ref x.hwr, .ref x.hp, .int (nI σ.nd), .int σ.stp])), (x.hp, .inr (4, [.int 0, .int (bI σ.go.isSome), .int x.wl])), (x.hd, .inl (cD, 8, .inr (.inr (.inr (.inr ((dsA ds))))))), (x.hmk, .inr (2, [.ref hba2, .ref hta2, vp2, .int a2x])), (hta2, .inr (1, [.ref hty2, .int (nI k2)])), (hty2, .inl (cB, 256, .inl (f2))), (hba2, .inr (1, [.ref hby2, .int (nI kb2)])), (hby2, .inl (cB, 256, .inl (fb2))), (x.hwr, .inr (3, [.ref x.hrw, .int (nI q2)])), (x.hrw, .inl (cB, 512, .inl (g2))), (x.hb1, .inr (1, [.ref x.hy, .int (nI x.ku)])), (x.hy, .inl (cB, 256, .inl (x.fu))), (x.hf, .inr (1, [.ref x.hfy, .int (nI x.kf)])), (x.hfy, .inl (cB, 256, .inl (x.ff))), (x.hc, .inr (1, [.ref x.hcy, .int (nI x.kc)])), (x.hcy, .inl (cB, 256, .inl (x.fc)))] : va_W) ++ pW cB cR ds)).trans (kmp (X1 := [(h0, .inr (0, [.ref x.hd, .ref x.hb1, .ref x.hf, .ref x.hc, .ref x.hmk, .ref x.hwr, .ref x.hp, .int (nI σ.nd), .int σ.stp])), (x.hp, .inr (4, [.int 0, .int (bI σ.go.isSome), .int x.wl])), (x.hd, .inl (cD, 8, .inr (.inr (.inr (.inr ((dsA ds))))))), (x.hmk, .inr (2, [.ref hba2, .ref hta2, vp2, .int a2x])), (hta2, .inr (1, [.ref hty2, .int (nI k2)])), (hty2, .inl (cB, 256, .inl (f2))), (hba2, .inr (1, [.ref hby2, .int (nI kb2)])), (hby2, .inl (cB, 256, .inl (fb2))), (x.hwr, .inr (3, [.ref x.hrw, .int (nI q2)])), (x.hrw, .inl (cB, 512, .inl (g2))), (x.hb1, .inr (1, [.ref x.hy, .int (nI x.ku)])), (x.hy, .inl (cB, 256, .inl (x.fu)))]) (X2 := [(x.hf, .inr (1, [.ref x.hfy, .int (nI x.kf)])), (x.hfy, .inl (cB, 256, .inl (x.ff))), (x.hc, .inr (1, [.ref x.hcy, .int (nI x.kc)])), (x.hcy, .inl (cB, 256, .inl (x.fc)))]) (pick [0, 1, 2, 3, 4, 5, 6, 7, 8, 9, 10, 11, 12, 13, 14, 15] 16 rfl rfl rfl) (pW_take hi8 hdi))))⟩
          · have hnr : cfr ds 8 + blk (pce σ.buf Y).length ≤ 512 := by rw [← kus hk]; omega
            cases hsp : spend σ (blk (pce σ.buf Y).length + 1) with
            | none =>
              obtain ⟨w9, hw9, hlt⟩ := spend_none hsp
              have hst : (sCommit σ (nI i) a2) = (off σ, 1, 0) := by unfold sCommit; rw [if_neg hndn, hd]; refine (if_neg q).trans ?_; rw [bas_M, hbz]; refine (if_neg q2).trans ?_; rw [hsp]
              rw [hst]
              refine kThr (x_commit_X l hl9 dC dI sz h0 (.ref x.hf) (.ref x.hc) (nI σ.nd) σ.stp x.hp σ.go x.wl x.hd cD ds x.hmk x.hta x.hty x.hba x.hby cB x.k x.f x.kb x.fb x.vp x.a0 T Bs x.hwr x.hrw x.q x.g x.hb1 x.hy x.ku x.fu σ.buf d.a d.ra cR d.first d.count d.rv (rvW cB d.rv ++ pW cB cR (va_up ds i none)) i a2 Y w9 hg hmt hmt2 hmb hmb2 hk.bu.1 hk.bu.2 hi8 hdi hlt64 plR_of hok (kpd hi8 hdi) hk.ok hus hbz hnr hw9 hlt) (by decide) ((List.Perm.of_eq hW).trans (kmp (X1 := [(h0, .inr (0, [.ref x.hd, .ref x.hb1, .ref x.hf, .ref x.hc, .ref x.hmk, .ref x.hwr, .ref x.hp, .int (nI σ.nd), .int σ.stp])), (x.hp, .inr (4, [.int 0, .int (bI σ.go.isSome), .int x.wl])), (x.hd, .inl (cD, 8, .inr (.inr (.inr (.inr ((dsA ds))))))), (x.hmk, .inr (2, [.ref x.hba, .ref x.hta, x.vp, .int x.a0])), (x.hta, .inr (1, [.ref x.hty, .int (nI x.k)])), (x.hty, .inl (cB, 256, .inl (x.f))), (x.hba, .inr (1, [.ref x.hby, .int (nI x.kb)])), (x.hby, .inl (cB, 256, .inl (x.fb))), (x.hwr, .inr (3, [.ref x.hrw, .int (nI x.q)])), (x.hrw, .inl (cB, 512, .inl (x.g))), (x.hb1, .inr (1, [.ref x.hy, .int (nI x.ku)])), (x.hy, .inl (cB, 256, .inl (x.fu)))]) (X2 := [(x.hf, .inr (1, [.ref x.hfy, .int (nI x.kf)])), (x.hfy, .inl (cB, 256, .inl (x.ff))), (x.hc, .inr (1, [.ref x.hcy, .int (nI x.kc)])), (x.hcy, .inl (cB, 256, .inl (x.fc)))]) (pick [0, 1, 2, 3, 4, 5, 6, 7, 8, 9, 10, 11, 12, 13, 14, 15] 16 rfl rfl rfl) (pW_take hi8 hdi))) [1, 2, 0] rfl (fun E t hb fr => ?_)
              obtain ⟨hE, hta2, hty2, hba2, hby2, k2, f2, kb2, fb2, vp2, a2x, B2, q2, g2, hu, hat⟩ := hb
              exact ⟨⟨(show ¬ (1 : Int32) = 0 by decide), hE⟩, (x.hd, x.hb1, x.hy, x.hf, x.hfy, x.hc, x.hcy, x.hmk, hta2, hty2, hba2, hby2, x.hwr, x.hrw, x.hp, 1, (bI σ.go.isSome), x.wl, (nI σ.nd), σ.stp, a2x, vp2, k2, kb2, q2, 0, x.kf, x.kc, f2, fb2, g2, x.fu, x.ff, x.fc), ds, (kOk.mk rfl (fun h => by cases h) rfl rfl hk.ds hk.ok hk.kp ⟨tx_nil _, Nat.zero_le _⟩ hk.fe ⟨Y, hu.1⟩ ⟨B2, hu.2⟩ hk.cm), fr _ _ _ hat (kz ((List.Perm.of_eq (rfl : kW h0 cB cD cR (x.hd, x.hb1, x.hy, x.hf, x.hfy, x.hc, x.hcy, x.hmk, hta2, hty2, hba2, hby2, x.hwr, x.hrw, x.hp, 1, (bI σ.go.isSome), x.wl, (nI σ.nd), σ.stp, a2x, vp2, k2, kb2, q2, 0, x.kf, x.kc, f2, fb2, g2, x.fu, x.ff, x.fc) ds = ([(h0, .inr (0, [.ref x.hd, .ref x.hb1, .ref x.hf, .ref x.hc, .ref x.hmk, .ref x.hwr, .ref x.hp, .int (nI σ.nd), .int σ.stp])), (x.hp, .inr (4, [.int 1, .int (bI σ.go.isSome), .int x.wl])), (x.hd, .inl (cD, 8, .inr (.inr (.inr (.inr ((dsA ds))))))), (x.hmk, .inr (2, [.ref hba2, .ref hta2, vp2, .int a2x])), (hta2, .inr (1, [.ref hty2, .int (nI k2)])), (hty2, .inl (cB, 256, .inl (f2))), (hba2, .inr (1, [.ref hby2, .int (nI kb2)])), (hby2, .inl (cB, 256, .inl (fb2))), (x.hwr, .inr (3, [.ref x.hrw, .int (nI q2)])), (x.hrw, .inl (cB, 512, .inl (g2))), (x.hb1, .inr (1, [.ref x.hy, .int (nI 0)])), (x.hy, .inl (cB, 256, .inl (x.fu))), (x.hf, .inr (1, [.ref x.hfy, .int (nI x.kf)])), (x.hfy, .inl (cB, 256, .inl (x.ff))), (x.hc, .inr (1, [.ref x.hcy, .int (nI x.kc)])), (x.hcy, .inl (cB, 256, .inl (x.fc)))] : va_W) ++ pW cB cR ds)).trans (kmp (X1 := [(h0, .inr (0, [.ref x.hd, .ref x.hb1, .ref x.hf, .ref x.hc, .ref x.hmk, .ref x.hwr, .ref x.hp, .int (nI σ.nd), .int σ.stp])), (x.hp, .inr (4, [.int 1, .int (bI σ.go.isSome), .int x.wl])), (x.hd, .inl (cD, 8, .inr (.inr (.inr (.inr ((dsA ds))))))), (x.hmk, .inr (2, [.ref hba2, .ref hta2, vp2, .int a2x])), (hta2, .inr (1, [.ref hty2, .int (nI k2)])), (hty2, .inl (cB, 256, .inl (f2))), (hba2, .inr (1, [.ref hby2, .int (nI kb2)])), (hby2, .inl (cB, 256, .inl (fb2))), (x.hwr, .inr (3, [.ref x.hrw, .int (nI q2)])), (x.hrw, .inl (cB, 512, .inl (g2))), (x.hb1, .inr (1, [.ref x.hy, .int (nI 0)])), (x.hy, .inl (cB, 256, .inl (x.fu)))]) (X2 := [(x.hf, .inr (1, [.ref x.hfy, .int (nI x.kf)])), (x.hfy, .inl (cB, 256, .inl (x.ff))), (x.hc, .inr (1, [.ref x.hcy, .int (nI x.kc)])), (x.hcy, .inl (cB, 256, .inl (x.fc)))]) (pick [0, 1, 2, 3, 4, 5, 6, 7, 8, 9, 10, 11, 12, 13, 14, 15] 16 rfl rfl rfl) (pW_take hi8 hdi))))⟩
            | some τ =>
              obtain ⟨rfl, hle⟩ := spend_some hsp
              have hst : (sCommit σ (nI i) a2) = (sgC (sgG σ (σ.go.map (· - (blk (pce σ.buf Y).length + 1)))) (va_up σ.ds i (some ⟨d.first, d.count + 1, va_up (dcM d).rv d.count (some ⟨pce σ.buf Y, a2, sumL σ.buf⟩)⟩)), 0, nI d.count) := by unfold sCommit; rw [if_neg hndn, hd]; refine (if_neg q).trans ?_; rw [bas_M, hbz]; refine (if_neg q2).trans ?_; rw [hsp]; rfl
              rw [hst]
              refine kRet (g_commit_T l dC dI sz h0 (.ref x.hf) (.ref x.hc) (nI σ.nd) σ.stp x.hp σ.go x.wl x.hd cD ds x.hmk x.hta x.hty x.hba x.hby cB x.k x.f x.kb x.fb x.vp x.a0 T Bs x.hwr x.hrw x.q x.g x.hb1 x.hy x.ku x.fu σ.buf d.a d.ra cR d.first d.count d.rv (rvW cB d.rv ++ pW cB cR (va_up ds i none)) i a2 Y hg hmt hmt2 hmb hmb2 hk.bu.1 hk.bu.2 hi8 hdi hlt64 plR_of hok (kpd hi8 hdi) hk.ok hus hbz hnr hle) (by decide) ((List.Perm.of_eq hW).trans (kmp (X1 := [(h0, .inr (0, [.ref x.hd, .ref x.hb1, .ref x.hf, .ref x.hc, .ref x.hmk, .ref x.hwr, .ref x.hp, .int (nI σ.nd), .int σ.stp])), (x.hp, .inr (4, [.int 0, .int (bI σ.go.isSome), .int x.wl])), (x.hd, .inl (cD, 8, .inr (.inr (.inr (.inr ((dsA ds))))))), (x.hmk, .inr (2, [.ref x.hba, .ref x.hta, x.vp, .int x.a0])), (x.hta, .inr (1, [.ref x.hty, .int (nI x.k)])), (x.hty, .inl (cB, 256, .inl (x.f))), (x.hba, .inr (1, [.ref x.hby, .int (nI x.kb)])), (x.hby, .inl (cB, 256, .inl (x.fb))), (x.hwr, .inr (3, [.ref x.hrw, .int (nI x.q)])), (x.hrw, .inl (cB, 512, .inl (x.g))), (x.hb1, .inr (1, [.ref x.hy, .int (nI x.ku)])), (x.hy, .inl (cB, 256, .inl (x.fu)))]) (X2 := [(x.hf, .inr (1, [.ref x.hfy, .int (nI x.kf)])), (x.hfy, .inl (cB, 256, .inl (x.ff))), (x.hc, .inr (1, [.ref x.hcy, .int (nI x.kc)])), (x.hcy, .inl (cB, 256, .inl (x.fc)))]) (pick [0, 1, 2, 3, 4, 5, 6, 7, 8, 9, 10, 11, 12, 13, 14, 15] 16 rfl rfl rfl) (pW_take hi8 hdi))) [1, 2, 0] rfl (fun r h => ⟨rfl, h⟩) (fun t hb fr => ?_)
              obtain ⟨wl2, hta2, hty2, hba2, hby2, k2, f2, kb2, fb2, vp2, a2x, B2, q2, g2, hv2, pa2, n2, fp2, hu, hat⟩ := hb
              have hn9 : n2 ≤ 1024 := by have h1 := hu.2.2.1; have h2 := pce_len σ.buf Y; have h3 := hs.buf.1; omega
              rw [show va_up (rvA d.rv) d.count (some hv2) = rvA (va_up d.rv d.count (some (hv2, pa2, n2, fp2, pce σ.buf Y, a2, sumL σ.buf))) from (rvA_up d.rv d.count (some (hv2, pa2, n2, fp2, pce σ.buf Y, a2, sumL σ.buf))).symm] at hat
              exact ⟨(x.hd, x.hb1, x.hy, x.hf, x.hfy, x.hc, x.hcy, x.hmk, hta2, hty2, hba2, hby2, x.hwr, x.hrw, x.hp, 0, (bI σ.go.isSome), wl2, (nI σ.nd), σ.stp, a2x, vp2, k2, kb2, q2, 0, x.kf, x.kc, f2, fb2, g2, x.fu, x.ff, x.fc), (va_up ds i (some (d.a, d.ra, d.first, d.count + 1, va_up d.rv d.count (some (hv2, pa2, n2, fp2, pce σ.buf Y, a2, sumL σ.buf))))), (kOk.mk hd0 (fun _ => kgo hu.1) rfl rfl (kds hk.ds (dcM_up d (d.count + 1) d.count (hv2, pa2, n2, fp2, pce σ.buf Y, a2, sumL σ.buf))) (kok_up hk.ok ⟨by show d.count + 1 ≤ 64; omega, rvOk_up hok ⟨hu.2.2, hn9⟩⟩) (kpt_up hk.kp (kpt_add hkp)) ⟨tx_nil _, Nat.zero_le _⟩ hk.fe ⟨Y, hu.2.1.1⟩ ⟨B2, hu.2.1.2⟩ hk.cm), fr _ _ _ hat (kz ((List.Perm.of_eq (show kW h0 cB cD cR (x.hd, x.hb1, x.hy, x.hf, x.hfy, x.hc, x.hcy, x.hmk, hta2, hty2, hba2, hby2, x.hwr, x.hrw, x.hp, 0, (bI σ.go.isSome), wl2, (nI σ.nd), σ.stp, a2x, vp2, k2, kb2, q2, 0, x.kf, x.kc, f2, fb2, g2, x.fu, x.ff, x.fc) (va_up ds i (some (d.a, d.ra, d.first, d.count + 1, va_up d.rv d.count (some (hv2, pa2, n2, fp2, pce σ.buf Y, a2, sumL σ.buf))))) = ([(h0, .inr (0, [.ref x.hd, .ref x.hb1, .ref x.hf, .ref x.hc, .ref x.hmk, .ref x.hwr, .ref x.hp, .int (nI σ.nd), .int σ.stp])), (x.hp, .inr (4, [.int 0, .int (bI σ.go.isSome), .int wl2])), (x.hd, .inl (cD, 8, .inr (.inr (.inr (.inr ((dsA ds))))))), (x.hmk, .inr (2, [.ref hba2, .ref hta2, vp2, .int a2x])), (hta2, .inr (1, [.ref hty2, .int (nI k2)])), (hty2, .inl (cB, 256, .inl (f2))), (hba2, .inr (1, [.ref hby2, .int (nI kb2)])), (hby2, .inl (cB, 256, .inl (fb2))), (x.hwr, .inr (3, [.ref x.hrw, .int (nI q2)])), (x.hrw, .inl (cB, 512, .inl (g2))), (x.hb1, .inr (1, [.ref x.hy, .int (nI 0)])), (x.hy, .inl (cB, 256, .inl (x.fu))), (x.hf, .inr (1, [.ref x.hfy, .int (nI x.kf)])), (x.hfy, .inl (cB, 256, .inl (x.ff))), (x.hc, .inr (1, [.ref x.hcy, .int (nI x.kc)])), (x.hcy, .inl (cB, 256, .inl (x.fc)))] : va_W) ++ pW cB cR (va_up ds i (some (d.a, d.ra, d.first, d.count + 1, va_up d.rv d.count (some (hv2, pa2, n2, fp2, pce σ.buf Y, a2, sumL σ.buf))))) by unfold kW; rw [dsA_keep (d2 := (d.a, d.ra, d.first, d.count + 1, va_up d.rv d.count (some (hv2, pa2, n2, fp2, pce σ.buf Y, a2, sumL σ.buf)))) hdi rfl]; first | done | rfl)).trans (kmp (X1 := [(h0, .inr (0, [.ref x.hd, .ref x.hb1, .ref x.hf, .ref x.hc, .ref x.hmk, .ref x.hwr, .ref x.hp, .int (nI σ.nd), .int σ.stp])), (x.hp, .inr (4, [.int 0, .int (bI σ.go.isSome), .int wl2])), (x.hd, .inl (cD, 8, .inr (.inr (.inr (.inr ((dsA ds))))))), (x.hmk, .inr (2, [.ref hba2, .ref hta2, vp2, .int a2x])), (hta2, .inr (1, [.ref hty2, .int (nI k2)])), (hty2, .inl (cB, 256, .inl (f2))), (hba2, .inr (1, [.ref hby2, .int (nI kb2)])), (hby2, .inl (cB, 256, .inl (fb2))), (x.hwr, .inr (3, [.ref x.hrw, .int (nI q2)])), (x.hrw, .inl (cB, 512, .inl (g2))), (x.hb1, .inr (1, [.ref x.hy, .int (nI 0)])), (x.hy, .inl (cB, 256, .inl (x.fu)))]) (X2 := [(x.hf, .inr (1, [.ref x.hfy, .int (nI x.kf)])), (x.hfy, .inl (cB, 256, .inl (x.ff))), (x.hc, .inr (1, [.ref x.hcy, .int (nI x.kc)])), (x.hcy, .inl (cB, 256, .inl (x.fc)))]) (pick [0, 1, 2, 3, 4, 5, 6, 7, 8, 9, 10, 11, 12, 13, 14, 15] 16 rfl rfl rfl) (kcm hi8 hlt64 hnone))))⟩
set_option maxHeartbeats 4000000 in
set_option maxRecDepth 100000 in
theorem k_revision (l : Launch) (hl9 : l.stackTraces = false) (dC : Nat → ClassId) (dI : Nat → Nat → Nat) (sz : Nat) (h0 : Nat) (cB cD cR : ClassId) (x : KX) (ds : Nat → Option Dc) (σ : Sg) (a1 : Int32) (a2 : Int32) (a3 : Int32) (hs : sOk σ) (hk : kOk σ x ds) : kMet l y_K_revision k_K_revision ex3 (dC, dI) sz h0 cB cD cR x ds [.ref h0, .int a1, .int a2, .int a3] (sRev σ a1 a2 a3) := by
  cases hdn : σ.down with
  | true =>
    have hW : kW h0 cB cD cR x ds = ([(h0, .inr (0, [.ref x.hd, .ref x.hb1, .ref x.hf, .ref x.hc, .ref x.hmk, .ref x.hwr, .ref x.hp, .int x.md, .int x.fs])), (x.hp, .inr (4, [.int 1, .int x.gi, .int x.wl])), (x.hd, .inl (cD, 8, .inr (.inr (.inr (.inr ((dsA ds))))))), (x.hmk, .inr (2, [.ref x.hba, .ref x.hta, x.vp, .int x.a0])), (x.hta, .inr (1, [.ref x.hty, .int (nI x.k)])), (x.hty, .inl (cB, 256, .inl (x.f))), (x.hba, .inr (1, [.ref x.hby, .int (nI x.kb)])), (x.hby, .inl (cB, 256, .inl (x.fb))), (x.hwr, .inr (3, [.ref x.hrw, .int (nI x.q)])), (x.hrw, .inl (cB, 512, .inl (x.g))), (x.hb1, .inr (1, [.ref x.hy, .int (nI x.ku)])), (x.hy, .inl (cB, 256, .inl (x.fu))), (x.hf, .inr (1, [.ref x.hfy, .int (nI x.kf)])), (x.hfy, .inl (cB, 256, .inl (x.ff))), (x.hc, .inr (1, [.ref x.hcy, .int (nI x.kc)])), (x.hcy, .inl (cB, 256, .inl (x.fc)))] : va_W) ++ pW cB cR ds := by unfold kW; rw [hk.dw, hdn]; rfl
    have hst : (sRev σ a1 a2 a3) = (σ, 3, 0) := by unfold sRev; rw [if_pos hdn]
    rw [hst]
    exact kDown (x_revision_D l hl9 dC dI sz h0 (.ref x.hd) (.ref x.hb1) (.ref x.hf) (.ref x.hc) (.ref x.hmk) (.ref x.hwr) x.md x.fs x.hp x.gi x.wl a1 a2 a3) (by decide) ((List.Perm.of_eq hW).trans (km0 (X1 := [(h0, .inr (0, [.ref x.hd, .ref x.hb1, .ref x.hf, .ref x.hc, .ref x.hmk, .ref x.hwr, .ref x.hp, .int x.md, .int x.fs])), (x.hp, .inr (4, [.int 1, .int x.gi, .int x.wl]))]) (X2 := [(x.hd, .inl (cD, 8, .inr (.inr (.inr (.inr ((dsA ds))))))), (x.hmk, .inr (2, [.ref x.hba, .ref x.hta, x.vp, .int x.a0])), (x.hta, .inr (1, [.ref x.hty, .int (nI x.k)])), (x.hty, .inl (cB, 256, .inl (x.f))), (x.hba, .inr (1, [.ref x.hby, .int (nI x.kb)])), (x.hby, .inl (cB, 256, .inl (x.fb))), (x.hwr, .inr (3, [.ref x.hrw, .int (nI x.q)])), (x.hrw, .inl (cB, 512, .inl (x.g))), (x.hb1, .inr (1, [.ref x.hy, .int (nI x.ku)])), (x.hy, .inl (cB, 256, .inl (x.fu))), (x.hf, .inr (1, [.ref x.hfy, .int (nI x.kf)])), (x.hfy, .inl (cB, 256, .inl (x.ff))), (x.hc, .inr (1, [.ref x.hcy, .int (nI x.kc)])), (x.hcy, .inl (cB, 256, .inl (x.fc)))]) (pick [0, 1, 2, 3, 4, 5, 6, 7, 8, 9, 10, 11, 12, 13, 14, 15] 16 rfl rfl rfl))) [] rfl hk (by decide) rfl
  | false =>
    obtain ⟨hgi, hgw⟩ := hk.gi hdn
    have hg : ∀ w, σ.go = some w → x.wl = nI w ∧ w < 2 ^ 31 := fun w h => ⟨hgw w h, hs.go w h⟩
    have hd0 : (0 : Int32) = bI σ.down := by rw [hdn]; rfl
    have hndn : ¬ σ.down = true := by rw [hdn]; decide
    have hW : kW h0 cB cD cR x ds = ([(h0, .inr (0, [.ref x.hd, .ref x.hb1, .ref x.hf, .ref x.hc, .ref x.hmk, .ref x.hwr, .ref x.hp, .int (nI σ.nd), .int σ.stp])), (x.hp, .inr (4, [.int 0, .int (bI σ.go.isSome), .int x.wl])), (x.hd, .inl (cD, 8, .inr (.inr (.inr (.inr ((dsA ds))))))), (x.hmk, .inr (2, [.ref x.hba, .ref x.hta, x.vp, .int x.a0])), (x.hta, .inr (1, [.ref x.hty, .int (nI x.k)])), (x.hty, .inl (cB, 256, .inl (x.f))), (x.hba, .inr (1, [.ref x.hby, .int (nI x.kb)])), (x.hby, .inl (cB, 256, .inl (x.fb))), (x.hwr, .inr (3, [.ref x.hrw, .int (nI x.q)])), (x.hrw, .inl (cB, 512, .inl (x.g))), (x.hb1, .inr (1, [.ref x.hy, .int (nI x.ku)])), (x.hy, .inl (cB, 256, .inl (x.fu))), (x.hf, .inr (1, [.ref x.hfy, .int (nI x.kf)])), (x.hfy, .inl (cB, 256, .inl (x.ff))), (x.hc, .inr (1, [.ref x.hcy, .int (nI x.kc)])), (x.hcy, .inl (cB, 256, .inl (x.fc)))] : va_W) ++ pW cB cR ds := by unfold kW; rw [hk.dw, hdn, hgi, hk.md, hk.fs]; rfl
    cases hd : dGet σ.ds a1 with
    | none =>
      have hdN := kdocN hk hd
      have hrg := krGn (a2 := a2) hd
      have hst : (sRev σ a1 a2 a3) = (σ, 1, 0) := by unfold sRev; rw [if_neg hndn, hrg]
      rw [hst]
      exact kThrow (x_rev_D0 l hl9 dC dI sz h0 (.ref x.hb1) (.ref x.hf) (.ref x.hc) (.ref x.hmk) (.ref x.hwr) (nI σ.nd) σ.stp x.hp (bI σ.go.isSome) x.wl x.hd cD (dsA ds) a1 a2 a3 hdN) (by decide) ((List.Perm.of_eq hW).trans (km0 (X1 := [(h0, .inr (0, [.ref x.hd, .ref x.hb1, .ref x.hf, .ref x.hc, .ref x.hmk, .ref x.hwr, .ref x.hp, .int (nI σ.nd), .int σ.stp])), (x.hp, .inr (4, [.int 0, .int (bI σ.go.isSome), .int x.wl])), (x.hd, .inl (cD, 8, .inr (.inr (.inr (.inr ((dsA ds)))))))]) (X2 := [(x.hmk, .inr (2, [.ref x.hba, .ref x.hta, x.vp, .int x.a0])), (x.hta, .inr (1, [.ref x.hty, .int (nI x.k)])), (x.hty, .inl (cB, 256, .inl (x.f))), (x.hba, .inr (1, [.ref x.hby, .int (nI x.kb)])), (x.hby, .inl (cB, 256, .inl (x.fb))), (x.hwr, .inr (3, [.ref x.hrw, .int (nI x.q)])), (x.hrw, .inl (cB, 512, .inl (x.g))), (x.hb1, .inr (1, [.ref x.hy, .int (nI x.ku)])), (x.hy, .inl (cB, 256, .inl (x.fu))), (x.hf, .inr (1, [.ref x.hfy, .int (nI x.kf)])), (x.hfy, .inl (cB, 256, .inl (x.ff))), (x.hc, .inr (1, [.ref x.hcy, .int (nI x.kc)])), (x.hcy, .inl (cB, 256, .inl (x.fc)))]) (pick [0, 1, 2, 3, 4, 5, 6, 7, 8, 9, 10, 11, 12, 13, 14, 15] 16 rfl rfl rfl))) [1] rfl hk (by decide) rfl
    | some p =>
      obtain ⟨i, dm⟩ := p
      obtain ⟨d, hi8, rfl, hdi, rfl, hdS, hc64, hok, hkp, hdm⟩ := kdocS hs hk hd
      have hfd : d.first ≤ d.count := hdm.1
      by_cases q : a2 < 0 ∨ nI d.count ≤ a2
      · have hkN := krN1 q
        have hrg := krG0 hd q
        have hna := kna0 hfd hc64 q
        have hst : (sRev σ (nI i) a2 a3) = (σ, 1, 0) := by unfold sRev; rw [if_neg hndn, hrg]
        rw [hst]
        exact kThrow (x_rev_K0 l hl9 dC dI sz h0 (.ref x.hb1) (.ref x.hf) (.ref x.hc) (.ref x.hmk) (.ref x.hwr) (nI σ.nd) σ.stp x.hp (bI σ.go.isSome) x.wl x.hd cD (dsA ds) d.a d.ra cR d.first d.count (rvA d.rv) (nI i) a2 a3 hdS hc64 hna hkN) (by decide) ((List.Perm.of_eq hW).trans (km (X1 := [(h0, .inr (0, [.ref x.hd, .ref x.hb1, .ref x.hf, .ref x.hc, .ref x.hmk, .ref x.hwr, .ref x.hp, .int (nI σ.nd), .int σ.stp])), (x.hp, .inr (4, [.int 0, .int (bI σ.go.isSome), .int x.wl])), (x.hd, .inl (cD, 8, .inr (.inr (.inr (.inr ((dsA ds)))))))]) (X2 := [(x.hmk, .inr (2, [.ref x.hba, .ref x.hta, x.vp, .int x.a0])), (x.hta, .inr (1, [.ref x.hty, .int (nI x.k)])), (x.hty, .inl (cB, 256, .inl (x.f))), (x.hba, .inr (1, [.ref x.hby, .int (nI x.kb)])), (x.hby, .inl (cB, 256, .inl (x.fb))), (x.hwr, .inr (3, [.ref x.hrw, .int (nI x.q)])), (x.hrw, .inl (cB, 512, .inl (x.g))), (x.hb1, .inr (1, [.ref x.hy, .int (nI x.ku)])), (x.hy, .inl (cB, 256, .inl (x.fu))), (x.hf, .inr (1, [.ref x.hfy, .int (nI x.kf)])), (x.hfy, .inl (cB, 256, .inl (x.ff))), (x.hc, .inr (1, [.ref x.hcy, .int (nI x.kc)])), (x.hcy, .inl (cB, 256, .inl (x.fc)))]) (pick [0, 1, 2, 3, 4, 5, 6, 7, 8, 9, 10, 11, 12, 13, 14, 15] 16 rfl rfl rfl) (pW_take hi8 hdi))) [1, 2] rfl hk (by decide) rfl
      · obtain ⟨j, rfl, hj, hj64, hcj⟩ := krj hc64 q
        cases hrj : d.rv j with
        | none =>
          have hkN := krN2 hc64 hj hrj
          have hrg := krG1 hd q hcj hrj
          have hna := kna1 hfd hc64 hj hrj hkp
          have hst : (sRev σ (nI i) (nI j) a3) = (σ, 1, 0) := by unfold sRev; rw [if_neg hndn, hrg]
          rw [hst]
          exact kThrow (x_rev_K0 l hl9 dC dI sz h0 (.ref x.hb1) (.ref x.hf) (.ref x.hc) (.ref x.hmk) (.ref x.hwr) (nI σ.nd) σ.stp x.hp (bI σ.go.isSome) x.wl x.hd cD (dsA ds) d.a d.ra cR d.first d.count (rvA d.rv) (nI i) (nI j) a3 hdS hc64 hna hkN) (by decide) ((List.Perm.of_eq hW).trans (km (X1 := [(h0, .inr (0, [.ref x.hd, .ref x.hb1, .ref x.hf, .ref x.hc, .ref x.hmk, .ref x.hwr, .ref x.hp, .int (nI σ.nd), .int σ.stp])), (x.hp, .inr (4, [.int 0, .int (bI σ.go.isSome), .int x.wl])), (x.hd, .inl (cD, 8, .inr (.inr (.inr (.inr ((dsA ds)))))))]) (X2 := [(x.hmk, .inr (2, [.ref x.hba, .ref x.hta, x.vp, .int x.a0])), (x.hta, .inr (1, [.ref x.hty, .int (nI x.k)])), (x.hty, .inl (cB, 256, .inl (x.f))), (x.hba, .inr (1, [.ref x.hby, .int (nI x.kb)])), (x.hby, .inl (cB, 256, .inl (x.fb))), (x.hwr, .inr (3, [.ref x.hrw, .int (nI x.q)])), (x.hrw, .inl (cB, 512, .inl (x.g))), (x.hb1, .inr (1, [.ref x.hy, .int (nI x.ku)])), (x.hy, .inl (cB, 256, .inl (x.fu))), (x.hf, .inr (1, [.ref x.hfy, .int (nI x.kf)])), (x.hfy, .inl (cB, 256, .inl (x.ff))), (x.hc, .inr (1, [.ref x.hcy, .int (nI x.kc)])), (x.hcy, .inl (cB, 256, .inl (x.fc)))]) (pick [0, 1, 2, 3, 4, 5, 6, 7, 8, 9, 10, 11, 12, 13, 14, 15] 16 rfl rfl rfl) (pW_take hi8 hdi))) [1, 2] rfl hk (by decide) rfl
        | some r =>
          have hkS := krS hc64 hj hrj
          have hrg := krG2 hd q hcj hrj
          obtain ⟨htx, hnp⟩ := hok j r hrj
          by_cases hna : nI j < nI d.first ∨ nI d.count ≤ nI j
          · by_cases z0 : a3 = 0
            · subst z0
              have hst : (sRev σ (nI i) (nI j) 0) = (σ, 0, nI r.np) := by unfold sRev; rw [if_neg hndn, hrg]; exact (if_neg (fun z => z.2.1 rfl)).trans ((if_pos rfl).trans (by rw [show (rcM r).S.length = r.np from htx.1]))
              rw [hst]
              exact kPure (g_rev_F0 l dC dI h0 (.ref x.hb1) (.ref x.hf) (.ref x.hc) (.ref x.hmk) (.ref x.hwr) (nI σ.nd) σ.stp x.hp (bI σ.go.isSome) x.wl x.hd cD (dsA ds) d.a d.ra cR d.first d.count (rvA d.rv) r.a r.pa cB r.np r.fp r.au r.sm (nI i) (nI j) hdS hc64 hna hkS) (by decide) ((List.Perm.of_eq hW).trans (km (X1 := [(h0, .inr (0, [.ref x.hd, .ref x.hb1, .ref x.hf, .ref x.hc, .ref x.hmk, .ref x.hwr, .ref x.hp, .int (nI σ.nd), .int σ.stp])), (x.hp, .inr (4, [.int 0, .int (bI σ.go.isSome), .int x.wl])), (x.hd, .inl (cD, 8, .inr (.inr (.inr (.inr ((dsA ds)))))))]) (X2 := [(x.hmk, .inr (2, [.ref x.hba, .ref x.hta, x.vp, .int x.a0])), (x.hta, .inr (1, [.ref x.hty, .int (nI x.k)])), (x.hty, .inl (cB, 256, .inl (x.f))), (x.hba, .inr (1, [.ref x.hby, .int (nI x.kb)])), (x.hby, .inl (cB, 256, .inl (x.fb))), (x.hwr, .inr (3, [.ref x.hrw, .int (nI x.q)])), (x.hrw, .inl (cB, 512, .inl (x.g))), (x.hb1, .inr (1, [.ref x.hy, .int (nI x.ku)])), (x.hy, .inl (cB, 256, .inl (x.fu))), (x.hf, .inr (1, [.ref x.hfy, .int (nI x.kf)])), (x.hfy, .inl (cB, 256, .inl (x.ff))), (x.hc, .inr (1, [.ref x.hcy, .int (nI x.kc)])), (x.hcy, .inl (cB, 256, .inl (x.fc)))]) (pick [0, 1, 2, 3, 4, 5, 6, 7, 8, 9, 10, 11, 12, 13, 14, 15] 16 rfl rfl rfl) ((pW_take hi8 hdi).trans (kdr (rvW_take hj64 hrj))))) [1, 2, 0] rfl hk
            · by_cases z2 : a3 = 2
              · subst z2
                have hst : (sRev σ (nI i) (nI j) 2) = (σ, 0, r.sm) := by unfold sRev; rw [if_neg hndn, hrg]; exact (if_neg (fun z => z.2.2 rfl)).trans ((if_neg (by decide)).trans ((if_neg (by decide)).trans (if_pos rfl)))
                rw [hst]
                exact kPure (g_rev_F2 l dC dI h0 (.ref x.hb1) (.ref x.hf) (.ref x.hc) (.ref x.hmk) (.ref x.hwr) (nI σ.nd) σ.stp x.hp (bI σ.go.isSome) x.wl x.hd cD (dsA ds) d.a d.ra cR d.first d.count (rvA d.rv) r.a r.pa cB r.np r.fp r.au r.sm (nI i) (nI j) hdS hc64 hna hkS) (by decide) ((List.Perm.of_eq hW).trans (km (X1 := [(h0, .inr (0, [.ref x.hd, .ref x.hb1, .ref x.hf, .ref x.hc, .ref x.hmk, .ref x.hwr, .ref x.hp, .int (nI σ.nd), .int σ.stp])), (x.hp, .inr (4, [.int 0, .int (bI σ.go.isSome), .int x.wl])), (x.hd, .inl (cD, 8, .inr (.inr (.inr (.inr ((dsA ds)))))))]) (X2 := [(x.hmk, .inr (2, [.ref x.hba, .ref x.hta, x.vp, .int x.a0])), (x.hta, .inr (1, [.ref x.hty, .int (nI x.k)])), (x.hty, .inl (cB, 256, .inl (x.f))), (x.hba, .inr (1, [.ref x.hby, .int (nI x.kb)])), (x.hby, .inl (cB, 256, .inl (x.fb))), (x.hwr, .inr (3, [.ref x.hrw, .int (nI x.q)])), (x.hrw, .inl (cB, 512, .inl (x.g))), (x.hb1, .inr (1, [.ref x.hy, .int (nI x.ku)])), (x.hy, .inl (cB, 256, .inl (x.fu))), (x.hf, .inr (1, [.ref x.hfy, .int (nI x.kf)])), (x.hfy, .inl (cB, 256, .inl (x.ff))), (x.hc, .inr (1, [.ref x.hcy, .int (nI x.kc)])), (x.hcy, .inl (cB, 256, .inl (x.fc)))]) (pick [0, 1, 2, 3, 4, 5, 6, 7, 8, 9, 10, 11, 12, 13, 14, 15] 16 rfl rfl rfl) ((pW_take hi8 hdi).trans (kdr (rvW_take hj64 hrj))))) [1, 2, 0] rfl hk
              · have hst : (sRev σ (nI i) (nI j) a3) = (σ, 1, 0) := by unfold sRev; rw [if_neg hndn, hrg]; exact if_pos ⟨hna, z0, z2⟩
                rw [hst]
                exact kThrow (x_rev_F l hl9 dC dI sz h0 (.ref x.hb1) (.ref x.hf) (.ref x.hc) (.ref x.hmk) (.ref x.hwr) (nI σ.nd) σ.stp x.hp (bI σ.go.isSome) x.wl x.hd cD (dsA ds) d.a d.ra cR d.first d.count (rvA d.rv) r.a r.pa cB r.np r.fp r.au r.sm (nI i) (nI j) a3 hdS hc64 hna hkS z0 z2) (by decide) ((List.Perm.of_eq hW).trans (km (X1 := [(h0, .inr (0, [.ref x.hd, .ref x.hb1, .ref x.hf, .ref x.hc, .ref x.hmk, .ref x.hwr, .ref x.hp, .int (nI σ.nd), .int σ.stp])), (x.hp, .inr (4, [.int 0, .int (bI σ.go.isSome), .int x.wl])), (x.hd, .inl (cD, 8, .inr (.inr (.inr (.inr ((dsA ds)))))))]) (X2 := [(x.hmk, .inr (2, [.ref x.hba, .ref x.hta, x.vp, .int x.a0])), (x.hta, .inr (1, [.ref x.hty, .int (nI x.k)])), (x.hty, .inl (cB, 256, .inl (x.f))), (x.hba, .inr (1, [.ref x.hby, .int (nI x.kb)])), (x.hby, .inl (cB, 256, .inl (x.fb))), (x.hwr, .inr (3, [.ref x.hrw, .int (nI x.q)])), (x.hrw, .inl (cB, 512, .inl (x.g))), (x.hb1, .inr (1, [.ref x.hy, .int (nI x.ku)])), (x.hy, .inl (cB, 256, .inl (x.fu))), (x.hf, .inr (1, [.ref x.hfy, .int (nI x.kf)])), (x.hfy, .inl (cB, 256, .inl (x.ff))), (x.hc, .inr (1, [.ref x.hcy, .int (nI x.kc)])), (x.hcy, .inl (cB, 256, .inl (x.fc)))]) (pick [0, 1, 2, 3, 4, 5, 6, 7, 8, 9, 10, 11, 12, 13, 14, 15] 16 rfl rfl rfl) ((pW_take hi8 hdi).trans (kdr (rvW_take hj64 hrj))))) [1, 2, 0] rfl hk (by decide) rfl
          · obtain ⟨r9, hr9, ha1, ha2, hc9⟩ := kask hfd hc64 hna
            obtain rfl : j = r9 := hcj.symm.trans hc9
            by_cases z0 : a3 = 0
            · subst z0
              have hst : (sRev σ (nI i) (nI j) 0) = (σ, 0, nI r.np) := by unfold sRev; rw [if_neg hndn, hrg]; exact (if_neg (fun z => z.2.1 rfl)).trans ((if_pos rfl).trans (by rw [show (rcM r).S.length = r.np from htx.1]))
              rw [hst]
              exact kPure (g_rev_A0 l dC dI h0 (.ref x.hb1) (.ref x.hf) (.ref x.hc) (.ref x.hmk) (.ref x.hwr) (nI σ.nd) σ.stp x.hp (bI σ.go.isSome) x.wl x.hd cD (dsA ds) d.a d.ra cR d.first d.count (rvA d.rv) r.a r.pa cB r.np r.fp r.au r.sm (nI i) j hdS hc64 hkS ha1 ha2) (by decide) ((List.Perm.of_eq hW).trans (km (X1 := [(h0, .inr (0, [.ref x.hd, .ref x.hb1, .ref x.hf, .ref x.hc, .ref x.hmk, .ref x.hwr, .ref x.hp, .int (nI σ.nd), .int σ.stp])), (x.hp, .inr (4, [.int 0, .int (bI σ.go.isSome), .int x.wl])), (x.hd, .inl (cD, 8, .inr (.inr (.inr (.inr ((dsA ds)))))))]) (X2 := [(x.hmk, .inr (2, [.ref x.hba, .ref x.hta, x.vp, .int x.a0])), (x.hta, .inr (1, [.ref x.hty, .int (nI x.k)])), (x.hty, .inl (cB, 256, .inl (x.f))), (x.hba, .inr (1, [.ref x.hby, .int (nI x.kb)])), (x.hby, .inl (cB, 256, .inl (x.fb))), (x.hwr, .inr (3, [.ref x.hrw, .int (nI x.q)])), (x.hrw, .inl (cB, 512, .inl (x.g))), (x.hb1, .inr (1, [.ref x.hy, .int (nI x.ku)])), (x.hy, .inl (cB, 256, .inl (x.fu))), (x.hf, .inr (1, [.ref x.hfy, .int (nI x.kf)])), (x.hfy, .inl (cB, 256, .inl (x.ff))), (x.hc, .inr (1, [.ref x.hcy, .int (nI x.kc)])), (x.hcy, .inl (cB, 256, .inl (x.fc)))]) (pick [0, 1, 2, 3, 4, 5, 6, 7, 8, 9, 10, 11, 12, 13, 14, 15] 16 rfl rfl rfl) ((pW_take hi8 hdi).trans (kdr (rvW_take hj64 hrj))))) [1, 2, 0] rfl hk
            · by_cases z1 : a3 = 1
              · subst z1
                have hst : (sRev σ (nI i) (nI j) 1) = (σ, 0, r.au) := by unfold sRev; rw [if_neg hndn, hrg]; exact (if_neg (fun z => hna z.1)).trans ((if_neg (by decide)).trans (if_pos rfl))
                rw [hst]
                exact kPure (g_rev_A1 l dC dI h0 (.ref x.hb1) (.ref x.hf) (.ref x.hc) (.ref x.hmk) (.ref x.hwr) (nI σ.nd) σ.stp x.hp (bI σ.go.isSome) x.wl x.hd cD (dsA ds) d.a d.ra cR d.first d.count (rvA d.rv) r.a r.pa cB r.np r.fp r.au r.sm (nI i) j hdS hc64 hkS ha1 ha2) (by decide) ((List.Perm.of_eq hW).trans (km (X1 := [(h0, .inr (0, [.ref x.hd, .ref x.hb1, .ref x.hf, .ref x.hc, .ref x.hmk, .ref x.hwr, .ref x.hp, .int (nI σ.nd), .int σ.stp])), (x.hp, .inr (4, [.int 0, .int (bI σ.go.isSome), .int x.wl])), (x.hd, .inl (cD, 8, .inr (.inr (.inr (.inr ((dsA ds)))))))]) (X2 := [(x.hmk, .inr (2, [.ref x.hba, .ref x.hta, x.vp, .int x.a0])), (x.hta, .inr (1, [.ref x.hty, .int (nI x.k)])), (x.hty, .inl (cB, 256, .inl (x.f))), (x.hba, .inr (1, [.ref x.hby, .int (nI x.kb)])), (x.hby, .inl (cB, 256, .inl (x.fb))), (x.hwr, .inr (3, [.ref x.hrw, .int (nI x.q)])), (x.hrw, .inl (cB, 512, .inl (x.g))), (x.hb1, .inr (1, [.ref x.hy, .int (nI x.ku)])), (x.hy, .inl (cB, 256, .inl (x.fu))), (x.hf, .inr (1, [.ref x.hfy, .int (nI x.kf)])), (x.hfy, .inl (cB, 256, .inl (x.ff))), (x.hc, .inr (1, [.ref x.hcy, .int (nI x.kc)])), (x.hcy, .inl (cB, 256, .inl (x.fc)))]) (pick [0, 1, 2, 3, 4, 5, 6, 7, 8, 9, 10, 11, 12, 13, 14, 15] 16 rfl rfl rfl) ((pW_take hi8 hdi).trans (kdr (rvW_take hj64 hrj))))) [1, 2, 0] rfl hk
              · by_cases z2 : a3 = 2
                · subst z2
                  have hst : (sRev σ (nI i) (nI j) 2) = (σ, 0, r.sm) := by unfold sRev; rw [if_neg hndn, hrg]; exact (if_neg (fun z => z.2.2 rfl)).trans ((if_neg (by decide)).trans ((if_neg (by decide)).trans (if_pos rfl)))
                  rw [hst]
                  exact kPure (g_rev_A2 l dC dI h0 (.ref x.hb1) (.ref x.hf) (.ref x.hc) (.ref x.hmk) (.ref x.hwr) (nI σ.nd) σ.stp x.hp (bI σ.go.isSome) x.wl x.hd cD (dsA ds) d.a d.ra cR d.first d.count (rvA d.rv) r.a r.pa cB r.np r.fp r.au r.sm (nI i) j hdS hc64 hkS ha1 ha2) (by decide) ((List.Perm.of_eq hW).trans (km (X1 := [(h0, .inr (0, [.ref x.hd, .ref x.hb1, .ref x.hf, .ref x.hc, .ref x.hmk, .ref x.hwr, .ref x.hp, .int (nI σ.nd), .int σ.stp])), (x.hp, .inr (4, [.int 0, .int (bI σ.go.isSome), .int x.wl])), (x.hd, .inl (cD, 8, .inr (.inr (.inr (.inr ((dsA ds)))))))]) (X2 := [(x.hmk, .inr (2, [.ref x.hba, .ref x.hta, x.vp, .int x.a0])), (x.hta, .inr (1, [.ref x.hty, .int (nI x.k)])), (x.hty, .inl (cB, 256, .inl (x.f))), (x.hba, .inr (1, [.ref x.hby, .int (nI x.kb)])), (x.hby, .inl (cB, 256, .inl (x.fb))), (x.hwr, .inr (3, [.ref x.hrw, .int (nI x.q)])), (x.hrw, .inl (cB, 512, .inl (x.g))), (x.hb1, .inr (1, [.ref x.hy, .int (nI x.ku)])), (x.hy, .inl (cB, 256, .inl (x.fu))), (x.hf, .inr (1, [.ref x.hfy, .int (nI x.kf)])), (x.hfy, .inl (cB, 256, .inl (x.ff))), (x.hc, .inr (1, [.ref x.hcy, .int (nI x.kc)])), (x.hcy, .inl (cB, 256, .inl (x.fc)))]) (pick [0, 1, 2, 3, 4, 5, 6, 7, 8, 9, 10, 11, 12, 13, 14, 15] 16 rfl rfl rfl) ((pW_take hi8 hdi).trans (kdr (rvW_take hj64 hrj))))) [1, 2, 0] rfl hk
                · have hst : (sRev σ (nI i) (nI j) a3) = (σ, 2, 0) := by unfold sRev; rw [if_neg hndn, hrg]; exact (if_neg (fun z => hna z.1)).trans ((if_neg z0).trans ((if_neg z1).trans (if_neg z2)))
                  rw [hst]
                  exact kThrow (x_rev_A l hl9 dC dI sz h0 (.ref x.hb1) (.ref x.hf) (.ref x.hc) (.ref x.hmk) (.ref x.hwr) (nI σ.nd) σ.stp x.hp (bI σ.go.isSome) x.wl x.hd cD (dsA ds) d.a d.ra cR d.first d.count (rvA d.rv) r.a r.pa cB r.np r.fp r.au r.sm (nI i) j a3 hdS hc64 hkS ha1 ha2 z0 z1 z2) (by decide) ((List.Perm.of_eq hW).trans (km (X1 := [(h0, .inr (0, [.ref x.hd, .ref x.hb1, .ref x.hf, .ref x.hc, .ref x.hmk, .ref x.hwr, .ref x.hp, .int (nI σ.nd), .int σ.stp])), (x.hp, .inr (4, [.int 0, .int (bI σ.go.isSome), .int x.wl])), (x.hd, .inl (cD, 8, .inr (.inr (.inr (.inr ((dsA ds)))))))]) (X2 := [(x.hmk, .inr (2, [.ref x.hba, .ref x.hta, x.vp, .int x.a0])), (x.hta, .inr (1, [.ref x.hty, .int (nI x.k)])), (x.hty, .inl (cB, 256, .inl (x.f))), (x.hba, .inr (1, [.ref x.hby, .int (nI x.kb)])), (x.hby, .inl (cB, 256, .inl (x.fb))), (x.hwr, .inr (3, [.ref x.hrw, .int (nI x.q)])), (x.hrw, .inl (cB, 512, .inl (x.g))), (x.hb1, .inr (1, [.ref x.hy, .int (nI x.ku)])), (x.hy, .inl (cB, 256, .inl (x.fu))), (x.hf, .inr (1, [.ref x.hfy, .int (nI x.kf)])), (x.hfy, .inl (cB, 256, .inl (x.ff))), (x.hc, .inr (1, [.ref x.hcy, .int (nI x.kc)])), (x.hcy, .inl (cB, 256, .inl (x.fc)))]) (pick [0, 1, 2, 3, 4, 5, 6, 7, 8, 9, 10, 11, 12, 13, 14, 15] 16 rfl rfl rfl) ((pW_take hi8 hdi).trans (kdr (rvW_take hj64 hrj))))) [1, 2, 0] rfl hk (by decide) rfl
end
