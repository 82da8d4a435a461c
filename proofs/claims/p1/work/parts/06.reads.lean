set_option maxHeartbeats 4000000 in
set_option maxRecDepth 100000 in
theorem c_needPower (l : Launch) (dC : Nat → ClassId) (dI : Nat → Nat → Nat) (h0 : Nat) (v_documents : Value) (v_buffer : Value) (v_fetched : Value) (v_compared : Value) (v_maker : Value) (v_writer : Value) (i_madeDocuments : Int32) (i_fetchedSteps : Int32) (hp : Nat) (p_i_going : Int32) (p_i_writesLeft : Int32)  : Met l y_K_needPower k_K_needPower ({ frames := 0, cells := 0, slots := 0, locals := 0 } : Room) (va_Pc [.ref h0] (pc_R (dC, dI) [(h0, .inr (0, [v_documents, v_buffer, v_fetched, v_compared, v_maker, v_writer, .ref hp, .int i_madeDocuments, .int i_fetchedSteps])), (hp, .inr (4, [.int 0, .int p_i_going, .int p_i_writesLeft]))] [])) (va_Sv (fun _ => True)) 0 0 (fun _ => False) := by
  refine Met.ofW (cc := prog_1_method_21_code) (maxL := 1) (ret := none) (by decide) rfl ?_
  intro p e s m args below meth c s₁ B hml hv
  obtain ⟨rfl, hP, hK, hN⟩ := hv
  have hx := B.exec
  have hb := B.bytes
  have hr := B.returns
  have hts := atoms_spec (ws := k_K_needPower) B.pre
  have hw0 : ∀ w ∈ w0, w.before _ s = true := fun w h => hts w (List.mem_cons_of_mem _ h)
  have hown : s.vm.findClass R_K = some m.cls := findClass_of_methodNamed B.named
  have hlocks := B.notSynchronized
  have hP : va_P (dC, dI) vwCl [(h0, .inr (0, [v_documents, v_buffer, v_fetched, v_compared, v_maker, v_writer, .ref hp, .int i_madeDocuments, .int i_fetchedSteps])), (hp, .inr (4, [.int 0, .int p_i_going, .int p_i_writesLeft]))] s.heap := hP
  have hl := lv_entry ([.ref h0]) (n := 1) (Nat.le_of_ble_eq_true rfl)
  rw [lg_entry_eq]
  generalize (lg_sl ([.ref h0]) ++ List.replicate (1 - (lg_sl ([.ref h0])).length) Slot.unset).toArray = ls at hl ⊢
  have hl : lv_has ls 1 [(0, .ref h0)] := hl
  refine lv_aload_n hx hb d_K_needPower_0 rfl (lv_at hl 0 rfl) ?_
  refine va_get (D := (dC, dI)) (ci := 0) (v := .ref hp) (C := R_K) (T := F_K) (N := 9) hx hb hw0 in_K hown hK hP 0 rfl rfl 6 (by decide) (hw0 (.fieldLink R_K 45 "TextKeeper" "power" "LTextKeeper$Power;") (List.mem_of_getElem? (i := 105) rfl)) (fun _ h9 => h9) rfl d_K_needPower_1 ?_
  refine va_getN (D := (dC, dI)) (ci := 4) (v := .int 0) (C := R_P) (T := F_P) (N := 3) hx hb hw0 in_P hown hK hP 1 rfl rfl 0 (by decide) (va_Nw.use rfl (hN.1 (.fieldLinkNest R_K 180 "TextKeeper$Power" "down" "Z" "TextKeeper") (List.mem_of_getElem? (i := 0) rfl))) (fun _ h9 => h9) rfl d_K_needPower_4 ?_
  refine lv_if_eq (tgt := 18) hx hb d_K_needPower_7 (by decide) (fun _ => ?_) (fun h9 => absurd h9 (by decide +kernel))
  exact W.vret hx hb hr (fun t ht hW => ⟨rfl, trivial, ht⟩) (fun q h => by cases h) d_K_needPower_18
set_option maxHeartbeats 4000000 in
set_option maxRecDepth 100000 in
theorem c_documentAt (l : Launch) (dC : Nat → ClassId) (dI : Nat → Nat → Nat) (h0 : Nat) (v_buffer : Value) (v_fetched : Value) (v_compared : Value) (v_maker : Value) (v_writer : Value) (v_power : Value) (i_madeDocuments : Int32) (i_fetchedSteps : Int32) (hd : Nat) (cD : ClassId) (a1 : Int32)  : Met l y_K_documentAt k_K_documentAt ({ frames := 0, cells := 0, slots := 0, locals := 0 } : Room) (va_Pc [.ref h0, .int a1] (pc_R (dC, dI) [(h0, .inr (0, [.ref hd, v_buffer, v_fetched, v_compared, v_maker, v_writer, v_power, .int i_madeDocuments, .int i_fetchedSteps])), (hd, .inl (cD, 8, .inr (.inr (.inr (.inr (fun _ => none))))))] [(cD, .object R_D)])) (va_Sq (fun r => r = none)) 0 0 (fun _ => False) := by
  refine Met.ofW (cc := prog_1_method_23_code) (maxL := 2) (ret := (some (.object "TextKeeper$Document"))) (by decide) rfl ?_
  intro p e s m args below meth c s₁ B hml hv
  obtain ⟨rfl, hP, hK, hN⟩ := hv
  have hx := B.exec
  have hb := B.bytes
  have hr := B.returns
  have hts := atoms_spec (ws := k_K_documentAt) B.pre
  have hw0 : ∀ w ∈ w0, w.before _ s = true := fun w h => hts w (List.mem_cons_of_mem _ h)
  have hown : s.vm.findClass R_K = some m.cls := findClass_of_methodNamed B.named
  have hlocks := B.notSynchronized
  have hP : va_P (dC, dI) vwCl [(h0, .inr (0, [.ref hd, v_buffer, v_fetched, v_compared, v_maker, v_writer, v_power, .int i_madeDocuments, .int i_fetchedSteps])), (hd, .inl (cD, 8, .inr (.inr (.inr (.inr (fun _ => none))))))] s.heap := hP
  have hl := lv_entry ([.ref h0, .int a1]) (n := 2) (Nat.le_of_ble_eq_true rfl)
  rw [lg_entry_eq]
  generalize (lg_sl ([.ref h0, .int a1]) ++ List.replicate (2 - (lg_sl ([.ref h0, .int a1])).length) Slot.unset).toArray = ls at hl ⊢
  have hl : lv_has ls 2 [(0, .ref h0), (1, .int a1)] := hl
  refine lv_iload_n hx hb d_K_documentAt_0 rfl (lv_at hl 1 rfl) ?_
  refine lv_if_lt (tgt := 19) hx hb d_K_documentAt_1 (by decide) (fun c_1 => ?_) (fun c_1 => ?_)
  · refine lv_null hx hb d_K_documentAt_19 ?_
    exact W.aret (v := .null) hx hb hr (Or.inl ⟨_, rfl⟩) (Or.inl rfl) (fun t ht hW => ⟨none, rfl, rfl, ht⟩) (fun q h => by cases h) d_K_documentAt_20
  · refine lv_iload_n hx hb d_K_documentAt_4 rfl (lv_at hl 1 rfl) ?_
    refine lv_bipush (v := 8) hx hb d_K_documentAt_5 (by decide +kernel) ?_
    refine lv_icmp_ge (tgt := 19) hx hb d_K_documentAt_7 (by decide) (fun c_2 => ?_) (fun c_2 => ?_)
    · refine lv_null hx hb d_K_documentAt_19 ?_
      exact W.aret (v := .null) hx hb hr (Or.inl ⟨_, rfl⟩) (Or.inl rfl) (fun t ht hW => ⟨none, rfl, rfl, ht⟩) (fun q h => by cases h) d_K_documentAt_20
    · refine lv_aload_n hx hb d_K_documentAt_10 rfl (lv_at hl 0 rfl) ?_
      refine va_get (D := (dC, dI)) (ci := 0) (v := .ref hd) (C := R_K) (T := F_K) (N := 9) hx hb hw0 in_K hown hK hP 0 rfl rfl 0 (by decide) (hw0 (.fieldLink R_K 11 "TextKeeper" "documents" "[LTextKeeper$Document;") (List.mem_of_getElem? (i := 79) rfl)) (fun _ h9 => h9) rfl d_K_documentAt_11 ?_
      refine lv_iload_n hx hb d_K_documentAt_14 rfl (lv_at hl 1 rfl) ?_
      refine va_aldq hx hb hK hP 1 0 rfl rfl (x_in (N := 8) (by decide +kernel) c_1 c_2) d_K_documentAt_15 ?_
      refine W.eq (g2 := F0 m 16 ls [.null]) rfl ?_
      refine lv_goto (tgt := 20) hx hb d_K_documentAt_16 (by decide) ?_
      exact W.aret (v := .null) hx hb hr (Or.inl ⟨_, rfl⟩) (Or.inl rfl) (fun t ht hW => ⟨none, rfl, rfl, ht⟩) (fun q h => by cases h) d_K_documentAt_20
set_option maxHeartbeats 4000000 in
set_option maxRecDepth 100000 in
theorem c_keptRevision (l : Launch) (dC : Nat → ClassId) (dI : Nat → Nat → Nat) (h0 : Nat) (v_buffer : Value) (v_fetched : Value) (v_compared : Value) (v_maker : Value) (v_writer : Value) (v_power : Value) (i_madeDocuments : Int32) (i_fetchedSteps : Int32) (hd : Nat) (cD : ClassId) (a1 : Int32) (a2 : Int32)  : Met l y_K_keptRevision k_K_keptRevision ({ frames := 1, cells := 0, slots := 0, locals := 21 } : Room) (va_Pc [.ref h0, .int a1, .int a2] (pc_R (dC, dI) [(h0, .inr (0, [.ref hd, v_buffer, v_fetched, v_compared, v_maker, v_writer, v_power, .int i_madeDocuments, .int i_fetchedSteps])), (hd, .inl (cD, 8, .inr (.inr (.inr (.inr (fun _ => none))))))] [(cD, .object R_D)])) (va_Sq (fun r => r = none)) 0 0 (fun _ => False) := by
  refine Met.ofW (cc := prog_1_method_24_code) (maxL := 4) (ret := (some (.object "TextKeeper$Revision"))) (by decide) rfl ?_
  intro p e s m args below meth c s₁ B hml hv
  obtain ⟨rfl, hP, hK, hN⟩ := hv
  have hx := B.exec
  have hb := B.bytes
  have hr := B.returns
  have hts := atoms_spec (ws := k_K_keptRevision) B.pre
  have hw0 : ∀ w ∈ w0, w.before _ s = true := fun w h => hts w (List.mem_cons_of_mem _ h)
  have hown : s.vm.findClass R_K = some m.cls := findClass_of_methodNamed B.named
  have hlocks := B.notSynchronized
  have hP : va_P (dC, dI) vwCl [(h0, .inr (0, [.ref hd, v_buffer, v_fetched, v_compared, v_maker, v_writer, v_power, .int i_madeDocuments, .int i_fetchedSteps])), (hd, .inl (cD, 8, .inr (.inr (.inr (.inr (fun _ => none))))))] s.heap := hP
  have hl := lv_entry ([.ref h0, .int a1, .int a2]) (n := 4) (Nat.le_of_ble_eq_true rfl)
  rw [lg_entry_eq]
  generalize (lg_sl ([.ref h0, .int a1, .int a2]) ++ List.replicate (4 - (lg_sl ([.ref h0, .int a1, .int a2])).length) Slot.unset).toArray = ls at hl ⊢
  have hl : lv_has ls 4 [(0, .ref h0), (1, .int a1), (2, .int a2)] := hl
  refine lv_aload_n hx hb d_K_keptRevision_0 rfl (lv_at hl 0 rfl) ?_
  refine lv_iload_n hx hb d_K_keptRevision_1 rfl (lv_at hl 1 rfl) ?_
  have hPc := hP.sub (ws' := [(h0, .inr (0, [.ref hd, v_buffer, v_fetched, v_compared, v_maker, v_writer, v_power, .int i_madeDocuments, .int i_fetchedSteps])), (hd, .inl (cD, 8, .inr (.inr (.inr (.inr (fun _ => none))))))]) [0, 1] rfl
  have hKc := hK.sub (tys' := [(cD, .object R_D)]) [0] rfl
  refine ps_q (va_runV (As := [.int a1]) (rest := []) ⟨hx, hb, hml, hown, hw0⟩ (c_documentAt l dC dI h0 v_buffer v_fetched v_compared v_maker v_writer v_power i_madeDocuments i_fetchedSteps hd cD a1) (cwV 1 hw0 (gd_V 108 109 110 111 112 rfl rfl rfl rfl rfl) rfl rfl rfl (by decide +kernel) ⟨by decide +kernel, by decide +kernel⟩) (prV_R hPc hKc hN (va_recv hKc hPc (ci := 0) (q0 := 0) rfl rfl)) rfl rfl hl.1 rfl (lv_room (Nat.le_of_ble_eq_true rfl)) d_K_keptRevision_2 ⟨by decide +kernel, by decide +kernel⟩) (fun r_1 hr_1 => ?_)
  obtain rfl : r_1 = none := hr_1
  refine W.eq (g2 := F0 m 5 ls [.null]) rfl ?_
  refine lv_astore_nN (lv' := [(3, .null), (0, .ref h0), (1, .int a1), (2, .int a2)]) hx hb d_K_keptRevision_5 rfl hl (by decide) rfl (fun ls hl => ?_)
  refine lv_aload_nN hx hb d_K_keptRevision_6 rfl (lv_at hl 0 rfl) ?_
  refine lv_ifnonnullN hx hb d_K_keptRevision_7 ?_
  refine lv_null hx hb d_K_keptRevision_10 ?_
  refine lv_goto (tgt := 19) hx hb d_K_keptRevision_11 (by decide) ?_
  exact W.aret (v := .null) hx hb hr (Or.inl ⟨_, rfl⟩) (Or.inl rfl) (fun t ht hW => ⟨none, rfl, rfl, ht⟩) (fun q h => by cases h) d_K_keptRevision_19
set_option maxHeartbeats 4000000 in
set_option maxRecDepth 100000 in
theorem c_commit (l : Launch) (dC : Nat → ClassId) (dI : Nat → Nat → Nat) (h0 : Nat) (v_buffer : Value) (v_fetched : Value) (v_compared : Value) (v_maker : Value) (v_writer : Value) (i_madeDocuments : Int32) (i_fetchedSteps : Int32) (hp : Nat) (p_i_going : Int32) (p_i_writesLeft : Int32) (hd : Nat) (cD : ClassId) (a1 : Int32) (a2 : Int32)  : Met l y_K_commit k_K_commit ({ frames := 1, cells := 0, slots := 0, locals := 21 } : Room) (va_Pc [.ref h0, .int a1, .int a2] (pc_R (dC, dI) [(h0, .inr (0, [.ref hd, v_buffer, v_fetched, v_compared, v_maker, v_writer, .ref hp, .int i_madeDocuments, .int i_fetchedSteps])), (hp, .inr (4, [.int 0, .int p_i_going, .int p_i_writesLeft])), (hd, .inl (cD, 8, .inr (.inr (.inr (.inr (fun _ => none))))))] [(cD, .object R_D)])) (vp_Si (fun r => r = (-1))) 0 0 (fun _ => False) := by
  refine Met.ofW (cc := prog_1_method_5_code) (maxL := 7) (ret := (some .int)) (by decide) rfl ?_
  intro p e s m args below meth c s₁ B hml hv
  obtain ⟨rfl, hP, hK, hN⟩ := hv
  have hx := B.exec
  have hb := B.bytes
  have hr := B.returns
  have hts := atoms_spec (ws := k_K_commit) B.pre
  have hw0 : ∀ w ∈ w0, w.before _ s = true := fun w h => hts w (List.mem_cons_of_mem _ h)
  have hown : s.vm.findClass R_K = some m.cls := findClass_of_methodNamed B.named
  have hlocks := B.notSynchronized
  have hP : va_P (dC, dI) vwCl [(h0, .inr (0, [.ref hd, v_buffer, v_fetched, v_compared, v_maker, v_writer, .ref hp, .int i_madeDocuments, .int i_fetchedSteps])), (hp, .inr (4, [.int 0, .int p_i_going, .int p_i_writesLeft])), (hd, .inl (cD, 8, .inr (.inr (.inr (.inr (fun _ => none))))))] s.heap := hP
  have hl := lv_entry ([.ref h0, .int a1, .int a2]) (n := 7) (Nat.le_of_ble_eq_true rfl)
  rw [lg_entry_eq]
  generalize (lg_sl ([.ref h0, .int a1, .int a2]) ++ List.replicate (7 - (lg_sl ([.ref h0, .int a1, .int a2])).length) Slot.unset).toArray = ls at hl ⊢
  have hl : lv_has ls 7 [(0, .ref h0), (1, .int a1), (2, .int a2)] := hl
  refine lv_aload_n hx hb d_K_commit_0 rfl (lv_at hl 0 rfl) ?_
  have hPc := hP.sub (ws' := [(h0, .inr (0, [.ref hd, v_buffer, v_fetched, v_compared, v_maker, v_writer, .ref hp, .int i_madeDocuments, .int i_fetchedSteps])), (hp, .inr (4, [.int 0, .int p_i_going, .int p_i_writesLeft]))]) [0, 1] rfl
  have hKc := hK.sub (tys' := []) [] rfl
  refine ps_v (va_runV (As := []) (rest := []) ⟨hx, hb, hml, hown, hw0⟩ (c_needPower l dC dI h0 (.ref hd) v_buffer v_fetched v_compared v_maker v_writer i_madeDocuments i_fetchedSteps hp p_i_going p_i_writesLeft) (cwV 0 hw0 (gd_V 113 114 115 111 116 rfl rfl rfl rfl rfl) rfl rfl rfl (by decide +kernel) ⟨by decide +kernel, by decide +kernel⟩) (prV_R hPc hKc hN (va_recv hKc hPc (ci := 0) (q0 := 0) rfl rfl)) rfl rfl hl.1 rfl (lv_room (Nat.le_of_ble_eq_true rfl)) d_K_commit_1 ⟨by decide +kernel, by decide +kernel⟩) ?_
  refine lv_aload_n hx hb d_K_commit_4 rfl (lv_at hl 0 rfl) ?_
  refine lv_iload_n hx hb d_K_commit_5 rfl (lv_at hl 1 rfl) ?_
  have hPc := hP.sub (ws' := [(h0, .inr (0, [.ref hd, v_buffer, v_fetched, v_compared, v_maker, v_writer, .ref hp, .int i_madeDocuments, .int i_fetchedSteps])), (hd, .inl (cD, 8, .inr (.inr (.inr (.inr (fun _ => none))))))]) [0, 2] rfl
  have hKc := hK.sub (tys' := [(cD, .object R_D)]) [0] rfl
  refine ps_q (va_runV (As := [.int a1]) (rest := []) ⟨hx, hb, hml, hown, hw0⟩ (c_documentAt l dC dI h0 v_buffer v_fetched v_compared v_maker v_writer (.ref hp) i_madeDocuments i_fetchedSteps hd cD a1) (cwV 1 hw0 (gd_V 108 109 110 111 112 rfl rfl rfl rfl rfl) rfl rfl rfl (by decide +kernel) ⟨by decide +kernel, by decide +kernel⟩) (prV_R hPc hKc hN (va_recv hKc hPc (ci := 0) (q0 := 0) rfl rfl)) rfl rfl hl.1 rfl (lv_room (Nat.le_of_ble_eq_true rfl)) d_K_commit_6 ⟨by decide +kernel, by decide +kernel⟩) (fun r_1 hr_1 => ?_)
  obtain rfl : r_1 = none := hr_1
  refine W.eq (g2 := F0 m 9 ls [.null]) rfl ?_
  refine lv_astore_nN (lv' := [(3, .null), (0, .ref h0), (1, .int a1), (2, .int a2)]) hx hb d_K_commit_9 rfl hl (by decide) rfl (fun ls hl => ?_)
  refine lv_aload_nN hx hb d_K_commit_10 rfl (lv_at hl 0 rfl) ?_
  refine lv_ifnullN (tgt := 21) hx hb d_K_commit_11 (by decide) ?_
  refine lv_iconst (v := (-1)) hx hb d_K_commit_21 (by decide) ?_
  exact W.iret (v := (-1)) hx hb hr (fun t ht hW => ⟨(-1), rfl, rfl, ht⟩) (fun q h => by cases h) d_K_commit_22
set_option maxHeartbeats 4000000 in
set_option maxRecDepth 100000 in
theorem c_fetch (l : Launch) (dC : Nat → ClassId) (dI : Nat → Nat → Nat) (h0 : Nat) (v_buffer : Value) (v_fetched : Value) (v_compared : Value) (v_maker : Value) (v_writer : Value) (i_madeDocuments : Int32) (i_fetchedSteps : Int32) (hp : Nat) (p_i_going : Int32) (p_i_writesLeft : Int32) (hd : Nat) (cD : ClassId) (a1 : Int32) (a2 : Int32)  : Met l y_K_fetch k_K_fetch ({ frames := 1, cells := 0, slots := 0, locals := 21 } : Room) (va_Pc [.ref h0, .int a1, .int a2] (pc_R (dC, dI) [(h0, .inr (0, [.ref hd, v_buffer, v_fetched, v_compared, v_maker, v_writer, .ref hp, .int i_madeDocuments, .int i_fetchedSteps])), (hp, .inr (4, [.int 0, .int p_i_going, .int p_i_writesLeft])), (hd, .inl (cD, 8, .inr (.inr (.inr (.inr (fun _ => none))))))] [(cD, .object R_D)])) (vp_Si (fun r => r = (-1))) 0 0 (fun _ => False) := by
  refine Met.ofW (cc := prog_1_method_6_code) (maxL := 5) (ret := (some .int)) (by decide) rfl ?_
  intro p e s m args below meth c s₁ B hml hv
  obtain ⟨rfl, hP, hK, hN⟩ := hv
  have hx := B.exec
  have hb := B.bytes
  have hr := B.returns
  have hts := atoms_spec (ws := k_K_fetch) B.pre
  have hw0 : ∀ w ∈ w0, w.before _ s = true := fun w h => hts w (List.mem_cons_of_mem _ h)
  have hown : s.vm.findClass R_K = some m.cls := findClass_of_methodNamed B.named
  have hlocks := B.notSynchronized
  have hP : va_P (dC, dI) vwCl [(h0, .inr (0, [.ref hd, v_buffer, v_fetched, v_compared, v_maker, v_writer, .ref hp, .int i_madeDocuments, .int i_fetchedSteps])), (hp, .inr (4, [.int 0, .int p_i_going, .int p_i_writesLeft])), (hd, .inl (cD, 8, .inr (.inr (.inr (.inr (fun _ => none))))))] s.heap := hP
  have hl := lv_entry ([.ref h0, .int a1, .int a2]) (n := 5) (Nat.le_of_ble_eq_true rfl)
  rw [lg_entry_eq]
  generalize (lg_sl ([.ref h0, .int a1, .int a2]) ++ List.replicate (5 - (lg_sl ([.ref h0, .int a1, .int a2])).length) Slot.unset).toArray = ls at hl ⊢
  have hl : lv_has ls 5 [(0, .ref h0), (1, .int a1), (2, .int a2)] := hl
  refine lv_aload_n hx hb d_K_fetch_0 rfl (lv_at hl 0 rfl) ?_
  have hPc := hP.sub (ws' := [(h0, .inr (0, [.ref hd, v_buffer, v_fetched, v_compared, v_maker, v_writer, .ref hp, .int i_madeDocuments, .int i_fetchedSteps])), (hp, .inr (4, [.int 0, .int p_i_going, .int p_i_writesLeft]))]) [0, 1] rfl
  have hKc := hK.sub (tys' := []) [] rfl
  refine ps_v (va_runV (As := []) (rest := []) ⟨hx, hb, hml, hown, hw0⟩ (c_needPower l dC dI h0 (.ref hd) v_buffer v_fetched v_compared v_maker v_writer i_madeDocuments i_fetchedSteps hp p_i_going p_i_writesLeft) (cwV 0 hw0 (gd_V 113 114 115 111 116 rfl rfl rfl rfl rfl) rfl rfl rfl (by decide +kernel) ⟨by decide +kernel, by decide +kernel⟩) (prV_R hPc hKc hN (va_recv hKc hPc (ci := 0) (q0 := 0) rfl rfl)) rfl rfl hl.1 rfl (lv_room (Nat.le_of_ble_eq_true rfl)) d_K_fetch_1 ⟨by decide +kernel, by decide +kernel⟩) ?_
  refine lv_aload_n hx hb d_K_fetch_4 rfl (lv_at hl 0 rfl) ?_
  refine lv_iload_n hx hb d_K_fetch_5 rfl (lv_at hl 1 rfl) ?_
  have hPc := hP.sub (ws' := [(h0, .inr (0, [.ref hd, v_buffer, v_fetched, v_compared, v_maker, v_writer, .ref hp, .int i_madeDocuments, .int i_fetchedSteps])), (hd, .inl (cD, 8, .inr (.inr (.inr (.inr (fun _ => none))))))]) [0, 2] rfl
  have hKc := hK.sub (tys' := [(cD, .object R_D)]) [0] rfl
  refine ps_q (va_runV (As := [.int a1]) (rest := []) ⟨hx, hb, hml, hown, hw0⟩ (c_documentAt l dC dI h0 v_buffer v_fetched v_compared v_maker v_writer (.ref hp) i_madeDocuments i_fetchedSteps hd cD a1) (cwV 1 hw0 (gd_V 108 109 110 111 112 rfl rfl rfl rfl rfl) rfl rfl rfl (by decide +kernel) ⟨by decide +kernel, by decide +kernel⟩) (prV_R hPc hKc hN (va_recv hKc hPc (ci := 0) (q0 := 0) rfl rfl)) rfl rfl hl.1 rfl (lv_room (Nat.le_of_ble_eq_true rfl)) d_K_fetch_6 ⟨by decide +kernel, by decide +kernel⟩) (fun r_1 hr_1 => ?_)
  obtain rfl : r_1 = none := hr_1
  refine W.eq (g2 := F0 m 9 ls [.null]) rfl ?_
  refine lv_astore_nN (lv' := [(3, .null), (0, .ref h0), (1, .int a1), (2, .int a2)]) hx hb d_K_fetch_9 rfl hl (by decide) rfl (fun ls hl => ?_)
  refine lv_aload_nN hx hb d_K_fetch_10 rfl (lv_at hl 0 rfl) ?_
  refine lv_ifnullN (tgt := 22) hx hb d_K_fetch_11 (by decide) ?_
  refine lv_iconst (v := (-1)) hx hb d_K_fetch_22 (by decide) ?_
  exact W.iret (v := (-1)) hx hb hr (fun t ht hW => ⟨(-1), rfl, rfl, ht⟩) (fun q h => by cases h) d_K_fetch_23
set_option maxHeartbeats 4000000 in
set_option maxRecDepth 100000 in
theorem c_trim (l : Launch) (dC : Nat → ClassId) (dI : Nat → Nat → Nat) (h0 : Nat) (v_buffer : Value) (v_fetched : Value) (v_compared : Value) (v_maker : Value) (v_writer : Value) (i_madeDocuments : Int32) (i_fetchedSteps : Int32) (hp : Nat) (p_i_going : Int32) (p_i_writesLeft : Int32) (hd : Nat) (cD : ClassId) (a1 : Int32) (a2 : Int32)  : Met l y_K_trim k_K_trim ({ frames := 1, cells := 0, slots := 0, locals := 21 } : Room) (va_Pc [.ref h0, .int a1, .int a2] (pc_R (dC, dI) [(h0, .inr (0, [.ref hd, v_buffer, v_fetched, v_compared, v_maker, v_writer, .ref hp, .int i_madeDocuments, .int i_fetchedSteps])), (hp, .inr (4, [.int 0, .int p_i_going, .int p_i_writesLeft])), (hd, .inl (cD, 8, .inr (.inr (.inr (.inr (fun _ => none))))))] [(cD, .object R_D)])) (vp_Si (fun r => r = 0)) 0 0 (fun _ => False) := by
  refine Met.ofW (cc := prog_1_method_9_code) (maxL := 4) (ret := (some .boolean)) (by decide) rfl ?_
  intro p e s m args below meth c s₁ B hml hv
  obtain ⟨rfl, hP, hK, hN⟩ := hv
  have hx := B.exec
  have hb := B.bytes
  have hr := B.returns
  have hts := atoms_spec (ws := k_K_trim) B.pre
  have hw0 : ∀ w ∈ w0, w.before _ s = true := fun w h => hts w (List.mem_cons_of_mem _ h)
  have hown : s.vm.findClass R_K = some m.cls := findClass_of_methodNamed B.named
  have hlocks := B.notSynchronized
  have hP : va_P (dC, dI) vwCl [(h0, .inr (0, [.ref hd, v_buffer, v_fetched, v_compared, v_maker, v_writer, .ref hp, .int i_madeDocuments, .int i_fetchedSteps])), (hp, .inr (4, [.int 0, .int p_i_going, .int p_i_writesLeft])), (hd, .inl (cD, 8, .inr (.inr (.inr (.inr (fun _ => none))))))] s.heap := hP
  have hl := lv_entry ([.ref h0, .int a1, .int a2]) (n := 4) (Nat.le_of_ble_eq_true rfl)
  rw [lg_entry_eq]
  generalize (lg_sl ([.ref h0, .int a1, .int a2]) ++ List.replicate (4 - (lg_sl ([.ref h0, .int a1, .int a2])).length) Slot.unset).toArray = ls at hl ⊢
  have hl : lv_has ls 4 [(0, .ref h0), (1, .int a1), (2, .int a2)] := hl
  refine lv_aload_n hx hb d_K_trim_0 rfl (lv_at hl 0 rfl) ?_
  have hPc := hP.sub (ws' := [(h0, .inr (0, [.ref hd, v_buffer, v_fetched, v_compared, v_maker, v_writer, .ref hp, .int i_madeDocuments, .int i_fetchedSteps])), (hp, .inr (4, [.int 0, .int p_i_going, .int p_i_writesLeft]))]) [0, 1] rfl
  have hKc := hK.sub (tys' := []) [] rfl
  refine ps_v (va_runV (As := []) (rest := []) ⟨hx, hb, hml, hown, hw0⟩ (c_needPower l dC dI h0 (.ref hd) v_buffer v_fetched v_compared v_maker v_writer i_madeDocuments i_fetchedSteps hp p_i_going p_i_writesLeft) (cwV 0 hw0 (gd_V 113 114 115 111 116 rfl rfl rfl rfl rfl) rfl rfl rfl (by decide +kernel) ⟨by decide +kernel, by decide +kernel⟩) (prV_R hPc hKc hN (va_recv hKc hPc (ci := 0) (q0 := 0) rfl rfl)) rfl rfl hl.1 rfl (lv_room (Nat.le_of_ble_eq_true rfl)) d_K_trim_1 ⟨by decide +kernel, by decide +kernel⟩) ?_
  refine lv_aload_n hx hb d_K_trim_4 rfl (lv_at hl 0 rfl) ?_
  refine lv_iload_n hx hb d_K_trim_5 rfl (lv_at hl 1 rfl) ?_
  have hPc := hP.sub (ws' := [(h0, .inr (0, [.ref hd, v_buffer, v_fetched, v_compared, v_maker, v_writer, .ref hp, .int i_madeDocuments, .int i_fetchedSteps])), (hd, .inl (cD, 8, .inr (.inr (.inr (.inr (fun _ => none))))))]) [0, 2] rfl
  have hKc := hK.sub (tys' := [(cD, .object R_D)]) [0] rfl
  refine ps_q (va_runV (As := [.int a1]) (rest := []) ⟨hx, hb, hml, hown, hw0⟩ (c_documentAt l dC dI h0 v_buffer v_fetched v_compared v_maker v_writer (.ref hp) i_madeDocuments i_fetchedSteps hd cD a1) (cwV 1 hw0 (gd_V 108 109 110 111 112 rfl rfl rfl rfl rfl) rfl rfl rfl (by decide +kernel) ⟨by decide +kernel, by decide +kernel⟩) (prV_R hPc hKc hN (va_recv hKc hPc (ci := 0) (q0 := 0) rfl rfl)) rfl rfl hl.1 rfl (lv_room (Nat.le_of_ble_eq_true rfl)) d_K_trim_6 ⟨by decide +kernel, by decide +kernel⟩) (fun r_1 hr_1 => ?_)
  obtain rfl : r_1 = none := hr_1
  refine W.eq (g2 := F0 m 9 ls [.null]) rfl ?_
  refine lv_astore_nN (lv' := [(3, .null), (0, .ref h0), (1, .int a1), (2, .int a2)]) hx hb d_K_trim_9 rfl hl (by decide) rfl (fun ls hl => ?_)
  refine lv_aload_nN hx hb d_K_trim_10 rfl (lv_at hl 0 rfl) ?_
  refine lv_ifnullN (tgt := 22) hx hb d_K_trim_11 (by decide) ?_
  refine lv_iconst (v := 0) hx hb d_K_trim_22 (by decide) ?_
  exact W.zret (v := 0) (ty := .boolean) hx hb hr rfl (fun t ht hW => ⟨0, rfl, rfl, ht⟩) (fun q h => by cases h) d_K_trim_23
set_option maxHeartbeats 4000000 in
set_option maxRecDepth 100000 in
theorem c_dropDocument (l : Launch) (dC : Nat → ClassId) (dI : Nat → Nat → Nat) (h0 : Nat) (v_buffer : Value) (v_fetched : Value) (v_compared : Value) (v_maker : Value) (v_writer : Value) (i_madeDocuments : Int32) (i_fetchedSteps : Int32) (hp : Nat) (p_i_going : Int32) (p_i_writesLeft : Int32) (hd : Nat) (cD : ClassId) (a1 : Int32)  : Met l y_K_dropDocument k_K_dropDocument ({ frames := 1, cells := 0, slots := 0, locals := 21 } : Room) (va_Pc [.ref h0, .int a1] (pc_R (dC, dI) [(h0, .inr (0, [.ref hd, v_buffer, v_fetched, v_compared, v_maker, v_writer, .ref hp, .int i_madeDocuments, .int i_fetchedSteps])), (hp, .inr (4, [.int 0, .int p_i_going, .int p_i_writesLeft])), (hd, .inl (cD, 8, .inr (.inr (.inr (.inr (fun _ => none))))))] [(cD, .object R_D)])) (vp_Si (fun r => r = 0)) 0 0 (fun _ => False) := by
  refine Met.ofW (cc := prog_1_method_10_code) (maxL := 2) (ret := (some .boolean)) (by decide) rfl ?_
  intro p e s m args below meth c s₁ B hml hv
  obtain ⟨rfl, hP, hK, hN⟩ := hv
  have hx := B.exec
  have hb := B.bytes
  have hr := B.returns
  have hts := atoms_spec (ws := k_K_dropDocument) B.pre
  have hw0 : ∀ w ∈ w0, w.before _ s = true := fun w h => hts w (List.mem_cons_of_mem _ h)
  have hown : s.vm.findClass R_K = some m.cls := findClass_of_methodNamed B.named
  have hlocks := B.notSynchronized
  have hP : va_P (dC, dI) vwCl [(h0, .inr (0, [.ref hd, v_buffer, v_fetched, v_compared, v_maker, v_writer, .ref hp, .int i_madeDocuments, .int i_fetchedSteps])), (hp, .inr (4, [.int 0, .int p_i_going, .int p_i_writesLeft])), (hd, .inl (cD, 8, .inr (.inr (.inr (.inr (fun _ => none))))))] s.heap := hP
  have hl := lv_entry ([.ref h0, .int a1]) (n := 2) (Nat.le_of_ble_eq_true rfl)
  rw [lg_entry_eq]
  generalize (lg_sl ([.ref h0, .int a1]) ++ List.replicate (2 - (lg_sl ([.ref h0, .int a1])).length) Slot.unset).toArray = ls at hl ⊢
  have hl : lv_has ls 2 [(0, .ref h0), (1, .int a1)] := hl
  refine lv_aload_n hx hb d_K_dropDocument_0 rfl (lv_at hl 0 rfl) ?_
  have hPc := hP.sub (ws' := [(h0, .inr (0, [.ref hd, v_buffer, v_fetched, v_compared, v_maker, v_writer, .ref hp, .int i_madeDocuments, .int i_fetchedSteps])), (hp, .inr (4, [.int 0, .int p_i_going, .int p_i_writesLeft]))]) [0, 1] rfl
  have hKc := hK.sub (tys' := []) [] rfl
  refine ps_v (va_runV (As := []) (rest := []) ⟨hx, hb, hml, hown, hw0⟩ (c_needPower l dC dI h0 (.ref hd) v_buffer v_fetched v_compared v_maker v_writer i_madeDocuments i_fetchedSteps hp p_i_going p_i_writesLeft) (cwV 0 hw0 (gd_V 113 114 115 111 116 rfl rfl rfl rfl rfl) rfl rfl rfl (by decide +kernel) ⟨by decide +kernel, by decide +kernel⟩) (prV_R hPc hKc hN (va_recv hKc hPc (ci := 0) (q0 := 0) rfl rfl)) rfl rfl hl.1 rfl (lv_room (Nat.le_of_ble_eq_true rfl)) d_K_dropDocument_1 ⟨by decide +kernel, by decide +kernel⟩) ?_
  refine lv_aload_n hx hb d_K_dropDocument_4 rfl (lv_at hl 0 rfl) ?_
  refine lv_iload_n hx hb d_K_dropDocument_5 rfl (lv_at hl 1 rfl) ?_
  have hPc := hP.sub (ws' := [(h0, .inr (0, [.ref hd, v_buffer, v_fetched, v_compared, v_maker, v_writer, .ref hp, .int i_madeDocuments, .int i_fetchedSteps])), (hd, .inl (cD, 8, .inr (.inr (.inr (.inr (fun _ => none))))))]) [0, 2] rfl
  have hKc := hK.sub (tys' := [(cD, .object R_D)]) [0] rfl
  refine ps_q (va_runV (As := [.int a1]) (rest := []) ⟨hx, hb, hml, hown, hw0⟩ (c_documentAt l dC dI h0 v_buffer v_fetched v_compared v_maker v_writer (.ref hp) i_madeDocuments i_fetchedSteps hd cD a1) (cwV 1 hw0 (gd_V 108 109 110 111 112 rfl rfl rfl rfl rfl) rfl rfl rfl (by decide +kernel) ⟨by decide +kernel, by decide +kernel⟩) (prV_R hPc hKc hN (va_recv hKc hPc (ci := 0) (q0 := 0) rfl rfl)) rfl rfl hl.1 rfl (lv_room (Nat.le_of_ble_eq_true rfl)) d_K_dropDocument_6 ⟨by decide +kernel, by decide +kernel⟩) (fun r_1 hr_1 => ?_)
  obtain rfl : r_1 = none := hr_1
  refine W.eq (g2 := F0 m 9 ls [.null]) rfl ?_
  refine lv_ifnonnullN hx hb d_K_dropDocument_9 ?_
  refine lv_iconst (v := 0) hx hb d_K_dropDocument_12 (by decide) ?_
  exact W.zret (v := 0) (ty := .boolean) hx hb hr rfl (fun t ht hW => ⟨0, rfl, rfl, ht⟩) (fun q h => by cases h) d_K_dropDocument_13
set_option maxHeartbeats 4000000 in
set_option maxRecDepth 100000 in
theorem c_pieceByte (l : Launch) (dC : Nat → ClassId) (dI : Nat → Nat → Nat) (h0 : Nat) (v_buffer : Value) (v_fetched : Value) (v_compared : Value) (v_maker : Value) (v_writer : Value) (i_madeDocuments : Int32) (i_fetchedSteps : Int32) (hp : Nat) (p_i_going : Int32) (p_i_writesLeft : Int32) (hd : Nat) (cD : ClassId) (a1 : Int32) (a2 : Int32) (a3 : Int32)  : Met l y_K_pieceByte k_K_pieceByte ({ frames := 2, cells := 0, slots := 0, locals := 44 } : Room) (va_Pc [.ref h0, .int a1, .int a2, .int a3] (pc_R (dC, dI) [(h0, .inr (0, [.ref hd, v_buffer, v_fetched, v_compared, v_maker, v_writer, .ref hp, .int i_madeDocuments, .int i_fetchedSteps])), (hp, .inr (4, [.int 0, .int p_i_going, .int p_i_writesLeft])), (hd, .inl (cD, 8, .inr (.inr (.inr (.inr (fun _ => none))))))] [(cD, .object R_D)])) (vp_Si (fun r => r = (-1))) 0 0 (fun _ => False) := by
  refine Met.ofW (cc := prog_1_method_13_code) (maxL := 5) (ret := (some .int)) (by decide) rfl ?_
  intro p e s m args below meth c s₁ B hml hv
  obtain ⟨rfl, hP, hK, hN⟩ := hv
  have hx := B.exec
  have hb := B.bytes
  have hr := B.returns
  have hts := atoms_spec (ws := k_K_pieceByte) B.pre
  have hw0 : ∀ w ∈ w0, w.before _ s = true := fun w h => hts w (List.mem_cons_of_mem _ h)
  have hown : s.vm.findClass R_K = some m.cls := findClass_of_methodNamed B.named
  have hlocks := B.notSynchronized
  have hP : va_P (dC, dI) vwCl [(h0, .inr (0, [.ref hd, v_buffer, v_fetched, v_compared, v_maker, v_writer, .ref hp, .int i_madeDocuments, .int i_fetchedSteps])), (hp, .inr (4, [.int 0, .int p_i_going, .int p_i_writesLeft])), (hd, .inl (cD, 8, .inr (.inr (.inr (.inr (fun _ => none))))))] s.heap := hP
  have hl := lv_entry ([.ref h0, .int a1, .int a2, .int a3]) (n := 5) (Nat.le_of_ble_eq_true rfl)
  rw [lg_entry_eq]
  generalize (lg_sl ([.ref h0, .int a1, .int a2, .int a3]) ++ List.replicate (5 - (lg_sl ([.ref h0, .int a1, .int a2, .int a3])).length) Slot.unset).toArray = ls at hl ⊢
  have hl : lv_has ls 5 [(0, .ref h0), (1, .int a1), (2, .int a2), (3, .int a3)] := hl
  refine lv_aload_n hx hb d_K_pieceByte_0 rfl (lv_at hl 0 rfl) ?_
  have hPc := hP.sub (ws' := [(h0, .inr (0, [.ref hd, v_buffer, v_fetched, v_compared, v_maker, v_writer, .ref hp, .int i_madeDocuments, .int i_fetchedSteps])), (hp, .inr (4, [.int 0, .int p_i_going, .int p_i_writesLeft]))]) [0, 1] rfl
  have hKc := hK.sub (tys' := []) [] rfl
  refine ps_v (va_runV (As := []) (rest := []) ⟨hx, hb, hml, hown, hw0⟩ (c_needPower l dC dI h0 (.ref hd) v_buffer v_fetched v_compared v_maker v_writer i_madeDocuments i_fetchedSteps hp p_i_going p_i_writesLeft) (cwV 0 hw0 (gd_V 113 114 115 111 116 rfl rfl rfl rfl rfl) rfl rfl rfl (by decide +kernel) ⟨by decide +kernel, by decide +kernel⟩) (prV_R hPc hKc hN (va_recv hKc hPc (ci := 0) (q0 := 0) rfl rfl)) rfl rfl hl.1 rfl (lv_room (Nat.le_of_ble_eq_true rfl)) d_K_pieceByte_1 ⟨by decide +kernel, by decide +kernel⟩) ?_
  refine lv_aload_n hx hb d_K_pieceByte_4 rfl (lv_at hl 0 rfl) ?_
  refine lv_iload_n hx hb d_K_pieceByte_5 rfl (lv_at hl 1 rfl) ?_
  refine lv_iload_n hx hb d_K_pieceByte_6 rfl (lv_at hl 2 rfl) ?_
  have hPc := hP.sub (ws' := [(h0, .inr (0, [.ref hd, v_buffer, v_fetched, v_compared, v_maker, v_writer, .ref hp, .int i_madeDocuments, .int i_fetchedSteps])), (hd, .inl (cD, 8, .inr (.inr (.inr (.inr (fun _ => none))))))]) [0, 2] rfl
  have hKc := hK.sub (tys' := [(cD, .object R_D)]) [0] rfl
  refine ps_q (va_runV (As := [.int a1, .int a2]) (rest := []) ⟨hx, hb, hml, hown, hw0⟩ (c_keptRevision l dC dI h0 v_buffer v_fetched v_compared v_maker v_writer (.ref hp) i_madeDocuments i_fetchedSteps hd cD a1 a2) (cwV 2 hw0 (gd_V 117 118 119 111 120 rfl rfl rfl rfl rfl) rfl rfl rfl (by decide +kernel) ⟨by decide +kernel, by decide +kernel⟩) (prV_R hPc hKc hN (va_recv hKc hPc (ci := 0) (q0 := 0) rfl rfl)) rfl rfl hl.1 rfl (lv_room (Nat.le_of_ble_eq_true rfl)) d_K_pieceByte_7 ⟨by decide +kernel, by decide +kernel⟩) (fun r_1 hr_1 => ?_)
  obtain rfl : r_1 = none := hr_1
  refine W.eq (g2 := F0 m 10 ls [.null]) rfl ?_
  refine lv_astoreN (lv' := [(4, .null), (0, .ref h0), (1, .int a1), (2, .int a2), (3, .int a3)]) hx hb d_K_pieceByte_10 hl (by decide) rfl (fun ls hl => ?_)
  refine lv_aloadN hx hb d_K_pieceByte_12 (lv_at hl 0 rfl) ?_
  refine lv_ifnullN (tgt := 26) hx hb d_K_pieceByte_14 (by decide) ?_
  refine lv_iconst (v := (-1)) hx hb d_K_pieceByte_26 (by decide) ?_
  exact W.iret (v := (-1)) hx hb hr (fun t ht hW => ⟨(-1), rfl, rfl, ht⟩) (fun q h => by cases h) d_K_pieceByte_27
set_option maxHeartbeats 4000000 in
set_option maxRecDepth 100000 in
theorem c_damage (l : Launch) (dC : Nat → ClassId) (dI : Nat → Nat → Nat) (h0 : Nat) (v_buffer : Value) (v_fetched : Value) (v_compared : Value) (v_maker : Value) (v_writer : Value) (i_madeDocuments : Int32) (i_fetchedSteps : Int32) (hp : Nat) (p_i_going : Int32) (p_i_writesLeft : Int32) (hd : Nat) (cD : ClassId) (a1 : Int32) (a2 : Int32) (a3 : Int32) (a4 : Int32)  : Met l y_K_damage k_K_damage ({ frames := 2, cells := 0, slots := 0, locals := 44 } : Room) (va_Pc [.ref h0, .int a1, .int a2, .int a3, .int a4] (pc_R (dC, dI) [(h0, .inr (0, [.ref hd, v_buffer, v_fetched, v_compared, v_maker, v_writer, .ref hp, .int i_madeDocuments, .int i_fetchedSteps])), (hp, .inr (4, [.int 0, .int p_i_going, .int p_i_writesLeft])), (hd, .inl (cD, 8, .inr (.inr (.inr (.inr (fun _ => none))))))] [(cD, .object R_D)])) (vp_Si (fun r => r = 0)) 0 0 (fun _ => False) := by
  refine Met.ofW (cc := prog_1_method_14_code) (maxL := 6) (ret := (some .boolean)) (by decide) rfl ?_
  intro p e s m args below meth c s₁ B hml hv
  obtain ⟨rfl, hP, hK, hN⟩ := hv
  have hx := B.exec
  have hb := B.bytes
  have hr := B.returns
  have hts := atoms_spec (ws := k_K_damage) B.pre
  have hw0 : ∀ w ∈ w0, w.before _ s = true := fun w h => hts w (List.mem_cons_of_mem _ h)
  have hown : s.vm.findClass R_K = some m.cls := findClass_of_methodNamed B.named
  have hlocks := B.notSynchronized
  have hP : va_P (dC, dI) vwCl [(h0, .inr (0, [.ref hd, v_buffer, v_fetched, v_compared, v_maker, v_writer, .ref hp, .int i_madeDocuments, .int i_fetchedSteps])), (hp, .inr (4, [.int 0, .int p_i_going, .int p_i_writesLeft])), (hd, .inl (cD, 8, .inr (.inr (.inr (.inr (fun _ => none))))))] s.heap := hP
  have hl := lv_entry ([.ref h0, .int a1, .int a2, .int a3, .int a4]) (n := 6) (Nat.le_of_ble_eq_true rfl)
  rw [lg_entry_eq]
  generalize (lg_sl ([.ref h0, .int a1, .int a2, .int a3, .int a4]) ++ List.replicate (6 - (lg_sl ([.ref h0, .int a1, .int a2, .int a3, .int a4])).length) Slot.unset).toArray = ls at hl ⊢
  have hl : lv_has ls 6 [(0, .ref h0), (1, .int a1), (2, .int a2), (3, .int a3), (4, .int a4)] := hl
  refine lv_aload_n hx hb d_K_damage_0 rfl (lv_at hl 0 rfl) ?_
  have hPc := hP.sub (ws' := [(h0, .inr (0, [.ref hd, v_buffer, v_fetched, v_compared, v_maker, v_writer, .ref hp, .int i_madeDocuments, .int i_fetchedSteps])), (hp, .inr (4, [.int 0, .int p_i_going, .int p_i_writesLeft]))]) [0, 1] rfl
  have hKc := hK.sub (tys' := []) [] rfl
  refine ps_v (va_runV (As := []) (rest := []) ⟨hx, hb, hml, hown, hw0⟩ (c_needPower l dC dI h0 (.ref hd) v_buffer v_fetched v_compared v_maker v_writer i_madeDocuments i_fetchedSteps hp p_i_going p_i_writesLeft) (cwV 0 hw0 (gd_V 113 114 115 111 116 rfl rfl rfl rfl rfl) rfl rfl rfl (by decide +kernel) ⟨by decide +kernel, by decide +kernel⟩) (prV_R hPc hKc hN (va_recv hKc hPc (ci := 0) (q0 := 0) rfl rfl)) rfl rfl hl.1 rfl (lv_room (Nat.le_of_ble_eq_true rfl)) d_K_damage_1 ⟨by decide +kernel, by decide +kernel⟩) ?_
  refine lv_aload_n hx hb d_K_damage_4 rfl (lv_at hl 0 rfl) ?_
  refine lv_iload_n hx hb d_K_damage_5 rfl (lv_at hl 1 rfl) ?_
  refine lv_iload_n hx hb d_K_damage_6 rfl (lv_at hl 2 rfl) ?_
  have hPc := hP.sub (ws' := [(h0, .inr (0, [.ref hd, v_buffer, v_fetched, v_compared, v_maker, v_writer, .ref hp, .int i_madeDocuments, .int i_fetchedSteps])), (hd, .inl (cD, 8, .inr (.inr (.inr (.inr (fun _ => none))))))]) [0, 2] rfl
  have hKc := hK.sub (tys' := [(cD, .object R_D)]) [0] rfl
  refine ps_q (va_runV (As := [.int a1, .int a2]) (rest := []) ⟨hx, hb, hml, hown, hw0⟩ (c_keptRevision l dC dI h0 v_buffer v_fetched v_compared v_maker v_writer (.ref hp) i_madeDocuments i_fetchedSteps hd cD a1 a2) (cwV 2 hw0 (gd_V 117 118 119 111 120 rfl rfl rfl rfl rfl) rfl rfl rfl (by decide +kernel) ⟨by decide +kernel, by decide +kernel⟩) (prV_R hPc hKc hN (va_recv hKc hPc (ci := 0) (q0 := 0) rfl rfl)) rfl rfl hl.1 rfl (lv_room (Nat.le_of_ble_eq_true rfl)) d_K_damage_7 ⟨by decide +kernel, by decide +kernel⟩) (fun r_1 hr_1 => ?_)
  obtain rfl : r_1 = none := hr_1
  refine W.eq (g2 := F0 m 10 ls [.null]) rfl ?_
  refine lv_astoreN (lv' := [(5, .null), (0, .ref h0), (1, .int a1), (2, .int a2), (3, .int a3), (4, .int a4)]) hx hb d_K_damage_10 hl (by decide) rfl (fun ls hl => ?_)
  refine lv_aloadN hx hb d_K_damage_12 (lv_at hl 0 rfl) ?_
  refine lv_ifnullN (tgt := 26) hx hb d_K_damage_14 (by decide) ?_
  refine lv_iconst (v := 0) hx hb d_K_damage_26 (by decide) ?_
  exact W.zret (v := 0) (ty := .boolean) hx hb hr rfl (fun t ht hW => ⟨0, rfl, rfl, ht⟩) (fun q h => by cases h) d_K_damage_27
set_option maxHeartbeats 4000000 in
set_option maxRecDepth 100000 in
theorem c_verify (l : Launch) (dC : Nat → ClassId) (dI : Nat → Nat → Nat) (h0 : Nat) (v_buffer : Value) (v_fetched : Value) (v_compared : Value) (v_maker : Value) (v_writer : Value) (i_madeDocuments : Int32) (i_fetchedSteps : Int32) (hp : Nat) (p_i_going : Int32) (p_i_writesLeft : Int32) (hd : Nat) (cD : ClassId) (a1 : Int32)  : Met l y_K_verify k_K_verify ({ frames := 1, cells := 0, slots := 0, locals := 21 } : Room) (va_Pc [.ref h0, .int a1] (pc_R (dC, dI) [(h0, .inr (0, [.ref hd, v_buffer, v_fetched, v_compared, v_maker, v_writer, .ref hp, .int i_madeDocuments, .int i_fetchedSteps])), (hp, .inr (4, [.int 0, .int p_i_going, .int p_i_writesLeft])), (hd, .inl (cD, 8, .inr (.inr (.inr (.inr (fun _ => none))))))] [(cD, .object R_D)])) (vp_Si (fun r => r = (-1))) 0 0 (fun _ => False) := by
  refine Met.ofW (cc := prog_1_method_15_code) (maxL := 4) (ret := (some .int)) (by decide) rfl ?_
  intro p e s m args below meth c s₁ B hml hv
  obtain ⟨rfl, hP, hK, hN⟩ := hv
  have hx := B.exec
  have hb := B.bytes
  have hr := B.returns
  have hts := atoms_spec (ws := k_K_verify) B.pre
  have hw0 : ∀ w ∈ w0, w.before _ s = true := fun w h => hts w (List.mem_cons_of_mem _ h)
  have hown : s.vm.findClass R_K = some m.cls := findClass_of_methodNamed B.named
  have hlocks := B.notSynchronized
  have hP : va_P (dC, dI) vwCl [(h0, .inr (0, [.ref hd, v_buffer, v_fetched, v_compared, v_maker, v_writer, .ref hp, .int i_madeDocuments, .int i_fetchedSteps])), (hp, .inr (4, [.int 0, .int p_i_going, .int p_i_writesLeft])), (hd, .inl (cD, 8, .inr (.inr (.inr (.inr (fun _ => none))))))] s.heap := hP
  have hl := lv_entry ([.ref h0, .int a1]) (n := 4) (Nat.le_of_ble_eq_true rfl)
  rw [lg_entry_eq]
  generalize (lg_sl ([.ref h0, .int a1]) ++ List.replicate (4 - (lg_sl ([.ref h0, .int a1])).length) Slot.unset).toArray = ls at hl ⊢
  have hl : lv_has ls 4 [(0, .ref h0), (1, .int a1)] := hl
  refine lv_aload_n hx hb d_K_verify_0 rfl (lv_at hl 0 rfl) ?_
  have hPc := hP.sub (ws' := [(h0, .inr (0, [.ref hd, v_buffer, v_fetched, v_compared, v_maker, v_writer, .ref hp, .int i_madeDocuments, .int i_fetchedSteps])), (hp, .inr (4, [.int 0, .int p_i_going, .int p_i_writesLeft]))]) [0, 1] rfl
  have hKc := hK.sub (tys' := []) [] rfl
  refine ps_v (va_runV (As := []) (rest := []) ⟨hx, hb, hml, hown, hw0⟩ (c_needPower l dC dI h0 (.ref hd) v_buffer v_fetched v_compared v_maker v_writer i_madeDocuments i_fetchedSteps hp p_i_going p_i_writesLeft) (cwV 0 hw0 (gd_V 113 114 115 111 116 rfl rfl rfl rfl rfl) rfl rfl rfl (by decide +kernel) ⟨by decide +kernel, by decide +kernel⟩) (prV_R hPc hKc hN (va_recv hKc hPc (ci := 0) (q0 := 0) rfl rfl)) rfl rfl hl.1 rfl (lv_room (Nat.le_of_ble_eq_true rfl)) d_K_verify_1 ⟨by decide +kernel, by decide +kernel⟩) ?_
  refine lv_aload_n hx hb d_K_verify_4 rfl (lv_at hl 0 rfl) ?_
  refine lv_iload_n hx hb d_K_verify_5 rfl (lv_at hl 1 rfl) ?_
  have hPc := hP.sub (ws' := [(h0, .inr (0, [.ref hd, v_buffer, v_fetched, v_compared, v_maker, v_writer, .ref hp, .int i_madeDocuments, .int i_fetchedSteps])), (hd, .inl (cD, 8, .inr (.inr (.inr (.inr (fun _ => none))))))]) [0, 2] rfl
  have hKc := hK.sub (tys' := [(cD, .object R_D)]) [0] rfl
  refine ps_q (va_runV (As := [.int a1]) (rest := []) ⟨hx, hb, hml, hown, hw0⟩ (c_documentAt l dC dI h0 v_buffer v_fetched v_compared v_maker v_writer (.ref hp) i_madeDocuments i_fetchedSteps hd cD a1) (cwV 1 hw0 (gd_V 108 109 110 111 112 rfl rfl rfl rfl rfl) rfl rfl rfl (by decide +kernel) ⟨by decide +kernel, by decide +kernel⟩) (prV_R hPc hKc hN (va_recv hKc hPc (ci := 0) (q0 := 0) rfl rfl)) rfl rfl hl.1 rfl (lv_room (Nat.le_of_ble_eq_true rfl)) d_K_verify_6 ⟨by decide +kernel, by decide +kernel⟩) (fun r_1 hr_1 => ?_)
  obtain rfl : r_1 = none := hr_1
  refine W.eq (g2 := F0 m 9 ls [.null]) rfl ?_
  refine lv_astore_nN (lv' := [(2, .null), (0, .ref h0), (1, .int a1)]) hx hb d_K_verify_9 rfl hl (by decide) rfl (fun ls hl => ?_)
  refine lv_aload_nN hx hb d_K_verify_10 rfl (lv_at hl 0 rfl) ?_
  refine lv_ifnonnullN hx hb d_K_verify_11 ?_
  refine lv_iconst (v := (-1)) hx hb d_K_verify_14 (by decide) ?_
  exact W.iret (v := (-1)) hx hb hr (fun t ht hW => ⟨(-1), rfl, rfl, ht⟩) (fun q h => by cases h) d_K_verify_15
set_option maxHeartbeats 4000000 in
set_option maxRecDepth 100000 in
theorem c_common (l : Launch) (dC : Nat → ClassId) (dI : Nat → Nat → Nat) (h0 : Nat) (v_buffer : Value) (v_fetched : Value) (v_compared : Value) (v_maker : Value) (v_writer : Value) (i_madeDocuments : Int32) (i_fetchedSteps : Int32) (hp : Nat) (p_i_going : Int32) (p_i_writesLeft : Int32) (hd : Nat) (cD : ClassId) (a1 : Int32) (a2 : Int32) (a3 : Int32) (a4 : Int32)  : Met l y_K_common k_K_common ({ frames := 1, cells := 0, slots := 0, locals := 21 } : Room) (va_Pc [.ref h0, .int a1, .int a2, .int a3, .int a4] (pc_R (dC, dI) [(h0, .inr (0, [.ref hd, v_buffer, v_fetched, v_compared, v_maker, v_writer, .ref hp, .int i_madeDocuments, .int i_fetchedSteps])), (hp, .inr (4, [.int 0, .int p_i_going, .int p_i_writesLeft])), (hd, .inl (cD, 8, .inr (.inr (.inr (.inr (fun _ => none))))))] [(cD, .object R_D)])) (vp_Si (fun r => r = (-1))) 0 0 (fun _ => False) := by
  refine Met.ofW (cc := prog_1_method_16_code) (maxL := 9) (ret := (some .int)) (by decide) rfl ?_
  intro p e s m args below meth c s₁ B hml hv
  obtain ⟨rfl, hP, hK, hN⟩ := hv
  have hx := B.exec
  have hb := B.bytes
  have hr := B.returns
  have hts := atoms_spec (ws := k_K_common) B.pre
  have hw0 : ∀ w ∈ w0, w.before _ s = true := fun w h => hts w (List.mem_cons_of_mem _ h)
  have hown : s.vm.findClass R_K = some m.cls := findClass_of_methodNamed B.named
  have hlocks := B.notSynchronized
  have hP : va_P (dC, dI) vwCl [(h0, .inr (0, [.ref hd, v_buffer, v_fetched, v_compared, v_maker, v_writer, .ref hp, .int i_madeDocuments, .int i_fetchedSteps])), (hp, .inr (4, [.int 0, .int p_i_going, .int p_i_writesLeft])), (hd, .inl (cD, 8, .inr (.inr (.inr (.inr (fun _ => none))))))] s.heap := hP
  have hl := lv_entry ([.ref h0, .int a1, .int a2, .int a3, .int a4]) (n := 9) (Nat.le_of_ble_eq_true rfl)
  rw [lg_entry_eq]
  generalize (lg_sl ([.ref h0, .int a1, .int a2, .int a3, .int a4]) ++ List.replicate (9 - (lg_sl ([.ref h0, .int a1, .int a2, .int a3, .int a4])).length) Slot.unset).toArray = ls at hl ⊢
  have hl : lv_has ls 9 [(0, .ref h0), (1, .int a1), (2, .int a2), (3, .int a3), (4, .int a4)] := hl
  refine lv_aload_n hx hb d_K_common_0 rfl (lv_at hl 0 rfl) ?_
  have hPc := hP.sub (ws' := [(h0, .inr (0, [.ref hd, v_buffer, v_fetched, v_compared, v_maker, v_writer, .ref hp, .int i_madeDocuments, .int i_fetchedSteps])), (hp, .inr (4, [.int 0, .int p_i_going, .int p_i_writesLeft]))]) [0, 1] rfl
  have hKc := hK.sub (tys' := []) [] rfl
  refine ps_v (va_runV (As := []) (rest := []) ⟨hx, hb, hml, hown, hw0⟩ (c_needPower l dC dI h0 (.ref hd) v_buffer v_fetched v_compared v_maker v_writer i_madeDocuments i_fetchedSteps hp p_i_going p_i_writesLeft) (cwV 0 hw0 (gd_V 113 114 115 111 116 rfl rfl rfl rfl rfl) rfl rfl rfl (by decide +kernel) ⟨by decide +kernel, by decide +kernel⟩) (prV_R hPc hKc hN (va_recv hKc hPc (ci := 0) (q0 := 0) rfl rfl)) rfl rfl hl.1 rfl (lv_room (Nat.le_of_ble_eq_true rfl)) d_K_common_1 ⟨by decide +kernel, by decide +kernel⟩) ?_
  refine lv_aload_n hx hb d_K_common_4 rfl (lv_at hl 0 rfl) ?_
  refine lv_iload_n hx hb d_K_common_5 rfl (lv_at hl 1 rfl) ?_
  have hPc := hP.sub (ws' := [(h0, .inr (0, [.ref hd, v_buffer, v_fetched, v_compared, v_maker, v_writer, .ref hp, .int i_madeDocuments, .int i_fetchedSteps])), (hd, .inl (cD, 8, .inr (.inr (.inr (.inr (fun _ => none))))))]) [0, 2] rfl
  have hKc := hK.sub (tys' := [(cD, .object R_D)]) [0] rfl
  refine ps_q (va_runV (As := [.int a1]) (rest := []) ⟨hx, hb, hml, hown, hw0⟩ (c_documentAt l dC dI h0 v_buffer v_fetched v_compared v_maker v_writer (.ref hp) i_madeDocuments i_fetchedSteps hd cD a1) (cwV 1 hw0 (gd_V 108 109 110 111 112 rfl rfl rfl rfl rfl) rfl rfl rfl (by decide +kernel) ⟨by decide +kernel, by decide +kernel⟩) (prV_R hPc hKc hN (va_recv hKc hPc (ci := 0) (q0 := 0) rfl rfl)) rfl rfl hl.1 rfl (lv_room (Nat.le_of_ble_eq_true rfl)) d_K_common_6 ⟨by decide +kernel, by decide +kernel⟩) (fun r_1 hr_1 => ?_)
  obtain rfl : r_1 = none := hr_1
  refine W.eq (g2 := F0 m 9 ls [.null]) rfl ?_
  refine lv_astoreN (lv' := [(5, .null), (0, .ref h0), (1, .int a1), (2, .int a2), (3, .int a3), (4, .int a4)]) hx hb d_K_common_9 hl (by decide) rfl (fun ls hl => ?_)
  refine lv_aloadN hx hb d_K_common_11 (lv_at hl 0 rfl) ?_
  refine lv_ifnullN (tgt := 34) hx hb d_K_common_13 (by decide) ?_
  refine lv_iconst (v := (-1)) hx hb d_K_common_34 (by decide) ?_
  exact W.iret (v := (-1)) hx hb hr (fun t ht hW => ⟨(-1), rfl, rfl, ht⟩) (fun q h => by cases h) d_K_common_35
set_option maxHeartbeats 4000000 in
set_option maxRecDepth 100000 in
theorem c_byteAt0 (l : Launch) (dC : Nat → ClassId) (dI : Nat → Nat → Nat) (h0 : Nat) (v_bytes : Value) (a1 : Int32)  : Met l y_T_byteAt k_T_byteAt ({ frames := 0, cells := 0, slots := 0, locals := 0 } : Room) (va_Pc [.ref h0, .int a1] (pc_R (dC, dI) [(h0, .inr (1, [v_bytes, .int 0]))] [])) (vp_Si (fun r => r = (-1))) 0 0 (fun _ => False) := by
  refine Met.ofW (cc := prog_7_method_2_code) (maxL := 2) (ret := (some .int)) (by decide) rfl ?_
  intro p e s m args below meth c s₁ B hml hv
  obtain ⟨rfl, hP, hK, hN⟩ := hv
  have hx := B.exec
  have hb := B.bytes
  have hr := B.returns
  have hts := atoms_spec (ws := k_T_byteAt) B.pre
  have hw0 : ∀ w ∈ w0, w.before _ s = true := fun w h => hts w (List.mem_cons_of_mem _ h)
  have hown : s.vm.findClass R_T = some m.cls := findClass_of_methodNamed B.named
  have hlocks := B.notSynchronized
  have hP : va_P (dC, dI) vwCl [(h0, .inr (1, [v_bytes, .int 0]))] s.heap := hP
  have hl := lv_entry ([.ref h0, .int a1]) (n := 2) (Nat.le_of_ble_eq_true rfl)
  rw [lg_entry_eq]
  generalize (lg_sl ([.ref h0, .int a1]) ++ List.replicate (2 - (lg_sl ([.ref h0, .int a1])).length) Slot.unset).toArray = ls at hl ⊢
  have hl : lv_has ls 2 [(0, .ref h0), (1, .int a1)] := hl
  refine lv_iload_n hx hb d_T_byteAt_0 rfl (lv_at hl 1 rfl) ?_
  refine lv_if_lt (tgt := 25) hx hb d_T_byteAt_1 (by decide) (fun c_1 => ?_) (fun c_1 => ?_)
  · refine lv_iconst (v := (-1)) hx hb d_T_byteAt_25 (by decide) ?_
    exact W.iret (v := (-1)) hx hb hr (fun t ht hW => ⟨(-1), rfl, rfl, ht⟩) (fun q h => by cases h) d_T_byteAt_26
  · refine lv_iload_n hx hb d_T_byteAt_4 rfl (lv_at hl 1 rfl) ?_
    refine lv_aload_n hx hb d_T_byteAt_5 rfl (lv_at hl 0 rfl) ?_
    refine va_get (D := (dC, dI)) (ci := 1) (v := .int 0) (C := R_T) (T := F_T) (N := 2) hx hb hw0 in_T hown hK hP 0 rfl rfl 1 (by decide) (hw0 (.fieldLink R_T 15 "TextKeeper$Text" "length" "I") (List.mem_of_getElem? (i := 62) rfl)) (fun _ h9 => h9) rfl d_T_byteAt_6 ?_
    refine lv_icmp_ge (tgt := 25) hx hb d_T_byteAt_9 (by decide) (fun c_2 => ?_) (fun c_2 => (x_nn c_1 c_2).elim)
    refine lv_iconst (v := (-1)) hx hb d_T_byteAt_25 (by decide) ?_
    exact W.iret (v := (-1)) hx hb hr (fun t ht hW => ⟨(-1), rfl, rfl, ht⟩) (fun q h => by cases h) d_T_byteAt_26
set_option maxHeartbeats 4000000 in
set_option maxRecDepth 100000 in
theorem c_out (l : Launch) (dC : Nat → ClassId) (dI : Nat → Nat → Nat) (h0 : Nat) (v_documents : Value) (v_buffer : Value) (v_compared : Value) (v_maker : Value) (v_writer : Value) (i_madeDocuments : Int32) (i_fetchedSteps : Int32) (hp : Nat) (p_i_going : Int32) (p_i_writesLeft : Int32) (hf : Nat) (t_v_bytes : Value) (a1 : Int32)  : Met l y_K_out k_K_out ({ frames := 1, cells := 0, slots := 0, locals := 21 } : Room) (va_Pc [.ref h0, .int a1] (pc_R (dC, dI) [(h0, .inr (0, [v_documents, v_buffer, .ref hf, v_compared, v_maker, v_writer, .ref hp, .int i_madeDocuments, .int i_fetchedSteps])), (hp, .inr (4, [.int 0, .int p_i_going, .int p_i_writesLeft])), (hf, .inr (1, [t_v_bytes, .int 0]))] [])) (vp_Si (fun r => r = (-1))) 0 0 (fun _ => False) := by
  refine Met.ofW (cc := prog_1_method_7_code) (maxL := 2) (ret := (some .int)) (by decide) rfl ?_
  intro p e s m args below meth c s₁ B hml hv
  obtain ⟨rfl, hP, hK, hN⟩ := hv
  have hx := B.exec
  have hb := B.bytes
  have hr := B.returns
  have hts := atoms_spec (ws := k_K_out) B.pre
  have hw0 : ∀ w ∈ w0, w.before _ s = true := fun w h => hts w (List.mem_cons_of_mem _ h)
  have hown : s.vm.findClass R_K = some m.cls := findClass_of_methodNamed B.named
  have hlocks := B.notSynchronized
  have hP : va_P (dC, dI) vwCl [(h0, .inr (0, [v_documents, v_buffer, .ref hf, v_compared, v_maker, v_writer, .ref hp, .int i_madeDocuments, .int i_fetchedSteps])), (hp, .inr (4, [.int 0, .int p_i_going, .int p_i_writesLeft])), (hf, .inr (1, [t_v_bytes, .int 0]))] s.heap := hP
  have hl := lv_entry ([.ref h0, .int a1]) (n := 2) (Nat.le_of_ble_eq_true rfl)
  rw [lg_entry_eq]
  generalize (lg_sl ([.ref h0, .int a1]) ++ List.replicate (2 - (lg_sl ([.ref h0, .int a1])).length) Slot.unset).toArray = ls at hl ⊢
  have hl : lv_has ls 2 [(0, .ref h0), (1, .int a1)] := hl
  refine lv_aload_n hx hb d_K_out_0 rfl (lv_at hl 0 rfl) ?_
  have hPc := hP.sub (ws' := [(h0, .inr (0, [v_documents, v_buffer, .ref hf, v_compared, v_maker, v_writer, .ref hp, .int i_madeDocuments, .int i_fetchedSteps])), (hp, .inr (4, [.int 0, .int p_i_going, .int p_i_writesLeft]))]) [0, 1] rfl
  have hKc := hK.sub (tys' := []) [] rfl
  refine ps_v (va_runV (As := []) (rest := []) ⟨hx, hb, hml, hown, hw0⟩ (c_needPower l dC dI h0 v_documents v_buffer (.ref hf) v_compared v_maker v_writer i_madeDocuments i_fetchedSteps hp p_i_going p_i_writesLeft) (cwV 0 hw0 (gd_V 113 114 115 111 116 rfl rfl rfl rfl rfl) rfl rfl rfl (by decide +kernel) ⟨by decide +kernel, by decide +kernel⟩) (prV_R hPc hKc hN (va_recv hKc hPc (ci := 0) (q0 := 0) rfl rfl)) rfl rfl hl.1 rfl (lv_room (Nat.le_of_ble_eq_true rfl)) d_K_out_1 ⟨by decide +kernel, by decide +kernel⟩) ?_
  refine lv_aload_n hx hb d_K_out_4 rfl (lv_at hl 0 rfl) ?_
  refine va_get (D := (dC, dI)) (ci := 0) (v := .ref hf) (C := R_K) (T := F_K) (N := 9) hx hb hw0 in_K hown hK hP 0 rfl rfl 2 (by decide) (hw0 (.fieldLink R_K 22 "TextKeeper" "fetched" "LTextKeeper$Text;") (List.mem_of_getElem? (i := 83) rfl)) (fun _ h9 => h9) rfl d_K_out_5 ?_
  refine lv_iload_n hx hb d_K_out_8 rfl (lv_at hl 1 rfl) ?_
  have hPc := hP.sub (ws' := [(hf, .inr (1, [t_v_bytes, .int 0]))]) [2] rfl
  have hKc := hK.sub (tys' := []) [] rfl
  refine ps_i (va_runV (As := [.int a1]) (rest := []) ⟨hx, hb, hml, hown, hw0⟩ (c_byteAt0 l dC dI hf t_v_bytes a1) (cwV 1 hw0 (gd_V 121 122 123 69 124 rfl rfl rfl rfl rfl) rfl rfl rfl (by decide +kernel) ⟨by decide +kernel, by decide +kernel⟩) (prV_R hPc hKc hN (va_recv hKc hPc (ci := 1) (q0 := 0) rfl rfl)) rfl rfl hl.1 rfl (lv_room (Nat.le_of_ble_eq_true rfl)) d_K_out_9 ⟨by decide +kernel, by decide +kernel⟩) (fun r_1 hr_1 => ?_)
  obtain rfl : r_1 = (-1) := hr_1
  exact W.iret (v := (-1)) hx hb hr (fun t ht hW => ⟨(-1), rfl, rfl, ht⟩) (fun q h => by cases h) d_K_out_12
set_option maxHeartbeats 4000000 in
set_option maxRecDepth 100000 in
theorem c_steps (l : Launch) (dC : Nat → ClassId) (dI : Nat → Nat → Nat) (h0 : Nat) (v_documents : Value) (v_buffer : Value) (v_fetched : Value) (v_compared : Value) (v_maker : Value) (v_writer : Value) (i_madeDocuments : Int32) (hp : Nat) (p_i_going : Int32) (p_i_writesLeft : Int32)  : Met l y_K_steps k_K_steps ({ frames := 1, cells := 0, slots := 0, locals := 20 } : Room) (va_Pc [.ref h0] (pc_R (dC, dI) [(h0, .inr (0, [v_documents, v_buffer, v_fetched, v_compared, v_maker, v_writer, .ref hp, .int i_madeDocuments, .int (-1)])), (hp, .inr (4, [.int 0, .int p_i_going, .int p_i_writesLeft]))] [])) (vp_Si (fun r => r = (-1))) 0 0 (fun _ => False) := by
  refine Met.ofW (cc := prog_1_method_8_code) (maxL := 1) (ret := (some .int)) (by decide) rfl ?_
  intro p e s m args below meth c s₁ B hml hv
  obtain ⟨rfl, hP, hK, hN⟩ := hv
  have hx := B.exec
  have hb := B.bytes
  have hr := B.returns
  have hts := atoms_spec (ws := k_K_steps) B.pre
  have hw0 : ∀ w ∈ w0, w.before _ s = true := fun w h => hts w (List.mem_cons_of_mem _ h)
  have hown : s.vm.findClass R_K = some m.cls := findClass_of_methodNamed B.named
  have hlocks := B.notSynchronized
  have hP : va_P (dC, dI) vwCl [(h0, .inr (0, [v_documents, v_buffer, v_fetched, v_compared, v_maker, v_writer, .ref hp, .int i_madeDocuments, .int (-1)])), (hp, .inr (4, [.int 0, .int p_i_going, .int p_i_writesLeft]))] s.heap := hP
  have hl := lv_entry ([.ref h0]) (n := 1) (Nat.le_of_ble_eq_true rfl)
  rw [lg_entry_eq]
  generalize (lg_sl ([.ref h0]) ++ List.replicate (1 - (lg_sl ([.ref h0])).length) Slot.unset).toArray = ls at hl ⊢
  have hl : lv_has ls 1 [(0, .ref h0)] := hl
  refine lv_aload_n hx hb d_K_steps_0 rfl (lv_at hl 0 rfl) ?_
  have hPc := hP.sub (ws' := [(h0, .inr (0, [v_documents, v_buffer, v_fetched, v_compared, v_maker, v_writer, .ref hp, .int i_madeDocuments, .int (-1)])), (hp, .inr (4, [.int 0, .int p_i_going, .int p_i_writesLeft]))]) [0, 1] rfl
  have hKc := hK.sub (tys' := []) [] rfl
  refine ps_v (va_runV (As := []) (rest := []) ⟨hx, hb, hml, hown, hw0⟩ (c_needPower l dC dI h0 v_documents v_buffer v_fetched v_compared v_maker v_writer i_madeDocuments (-1) hp p_i_going p_i_writesLeft) (cwV 0 hw0 (gd_V 113 114 115 111 116 rfl rfl rfl rfl rfl) rfl rfl rfl (by decide +kernel) ⟨by decide +kernel, by decide +kernel⟩) (prV_R hPc hKc hN (va_recv hKc hPc (ci := 0) (q0 := 0) rfl rfl)) rfl rfl hl.1 rfl (lv_room (Nat.le_of_ble_eq_true rfl)) d_K_steps_1 ⟨by decide +kernel, by decide +kernel⟩) ?_
  refine lv_aload_n hx hb d_K_steps_4 rfl (lv_at hl 0 rfl) ?_
  refine va_get (D := (dC, dI)) (ci := 0) (v := .int (-1)) (C := R_K) (T := F_K) (N := 9) hx hb hw0 in_K hown hK hP 0 rfl rfl 8 (by decide) (hw0 (.fieldLink R_K 53 "TextKeeper" "fetchedSteps" "I") (List.mem_of_getElem? (i := 107) rfl)) (fun _ h9 => h9) rfl d_K_steps_5 ?_
  exact W.iret (v := (-1)) hx hb hr (fun t ht hW => ⟨(-1), rfl, rfl, ht⟩) (fun q h => by cases h) d_K_steps_8
set_option maxHeartbeats 4000000 in
set_option maxRecDepth 100000 in
theorem c_countFree (l : Launch) (dC : Nat → ClassId) (dI : Nat → Nat → Nat) (h0 : Nat) (v_buffer : Value) (v_fetched : Value) (v_compared : Value) (v_maker : Value) (v_writer : Value) (v_power : Value) (i_madeDocuments : Int32) (i_fetchedSteps : Int32) (hd : Nat) (cD : ClassId)  : Met l y_K_countFree k_K_countFree ({ frames := 0, cells := 0, slots := 0, locals := 0 } : Room) (va_Pc [.ref h0] (pc_R (dC, dI) [(h0, .inr (0, [.ref hd, v_buffer, v_fetched, v_compared, v_maker, v_writer, v_power, .int i_madeDocuments, .int i_fetchedSteps])), (hd, .inl (cD, 8, .inr (.inr (.inr (.inr (fun _ => none))))))] [(cD, .object R_D)])) (vp_Si (fun r => r = 512)) 0 0 (fun _ => False) := by
  refine Met.ofW (cc := prog_1_method_26_code) (maxL := 6) (ret := (some .int)) (by decide) rfl ?_
  intro p e s m args below meth c s₁ B hml hv
  obtain ⟨rfl, hP, hK, hN⟩ := hv
  have hx := B.exec
  have hb := B.bytes
  have hr := B.returns
  have hts := atoms_spec (ws := k_K_countFree) B.pre
  have hw0 : ∀ w ∈ w0, w.before _ s = true := fun w h => hts w (List.mem_cons_of_mem _ h)
  have hown : s.vm.findClass R_K = some m.cls := findClass_of_methodNamed B.named
  have hlocks := B.notSynchronized
  have hP : va_P (dC, dI) vwCl [(h0, .inr (0, [.ref hd, v_buffer, v_fetched, v_compared, v_maker, v_writer, v_power, .int i_madeDocuments, .int i_fetchedSteps])), (hd, .inl (cD, 8, .inr (.inr (.inr (.inr (fun _ => none))))))] s.heap := hP
  have hl := lv_entry ([.ref h0]) (n := 6) (Nat.le_of_ble_eq_true rfl)
  rw [lg_entry_eq]
  generalize (lg_sl ([.ref h0]) ++ List.replicate (6 - (lg_sl ([.ref h0])).length) Slot.unset).toArray = ls at hl ⊢
  have hl : lv_has ls 6 [(0, .ref h0)] := hl
  refine lv_sipush (v := 512) hx hb d_K_countFree_0 (by decide +kernel) ?_
  refine lv_istore_n (lv' := [(1, .int 512), (0, .ref h0)]) hx hb d_K_countFree_3 rfl hl (by decide) rfl (fun ls hl => ?_)
  refine lv_aload_n hx hb d_K_countFree_4 rfl (lv_at hl 1 rfl) ?_
  refine va_get (D := (dC, dI)) (ci := 0) (v := .ref hd) (C := R_K) (T := F_K) (N := 9) hx hb hw0 in_K hown hK hP 0 rfl rfl 0 (by decide) (hw0 (.fieldLink R_K 11 "TextKeeper" "documents" "[LTextKeeper$Document;") (List.mem_of_getElem? (i := 79) rfl)) (fun _ h9 => h9) rfl d_K_countFree_5 ?_
  refine lv_astore_n (lv' := [(2, .ref hd), (1, .int 512), (0, .ref h0)]) hx hb d_K_countFree_8 rfl hl (by decide) rfl (fun ls hl => ?_)
  refine lv_aload_n hx hb d_K_countFree_9 rfl (lv_at hl 0 rfl) ?_
  refine va_alen (v := 8) hx hb hK hP 1 0 rfl rfl (by decide +kernel) d_K_countFree_10 ?_
  refine lv_istore_n (lv' := [(3, .int 8), (2, .ref hd), (1, .int 512), (0, .ref h0)]) hx hb d_K_countFree_11 rfl hl (by decide) rfl (fun ls hl => ?_)
  refine lv_iconst (v := 0) hx hb d_K_countFree_12 (by decide) ?_
  refine lv_istore (lv' := [(4, .int 0), (3, .int 8), (2, .ref hd), (1, .int 512), (0, .ref h0)]) hx hb d_K_countFree_13 hl (by decide) rfl (fun ls hl => ?_)
  refine lv_iload hx hb d_K_countFree_15 (lv_at hl 0 rfl) ?_
  refine lv_iload_n hx hb d_K_countFree_17 rfl (lv_at hl 1 rfl) ?_
  refine lv_icmp_ge (tgt := 46) hx hb d_K_countFree_18 (by decide) (fun h9 => absurd h9 (by decide +kernel)) (fun _ => ?_)
  refine lv_aload_n hx hb d_K_countFree_21 rfl (lv_at hl 2 rfl) ?_
  refine lv_iload hx hb d_K_countFree_22 (lv_at hl 0 rfl) ?_
  refine va_aldq hx hb hK hP 1 0 rfl rfl (by unfold vp_in; decide +kernel) d_K_countFree_24 ?_
  refine W.eq (g2 := F0 m 25 ls [.null]) rfl ?_
  refine lv_astoreN (lv' := [(5, .null), (4, .int 0), (3, .int 8), (2, .ref hd), (1, .int 512), (0, .ref h0)]) hx hb d_K_countFree_25 hl (by decide) rfl (fun ls hl => ?_)
  refine lv_aloadN hx hb d_K_countFree_27 (lv_at hl 0 rfl) ?_
  refine lv_ifnullN (tgt := 40) hx hb d_K_countFree_29 (by decide) ?_
  refine lv_iinc (v := 1) (lv' := [(4, .int 1), (5, .null), (3, .int 8), (2, .ref hd), (1, .int 512), (0, .ref h0)]) hx hb d_K_countFree_40 hl (k := 1) rfl (by decide +kernel) (by decide) rfl (fun ls hl => ?_)
  refine lv_goto (tgt := 15) hx hb d_K_countFree_43 (by decide) ?_
  refine lv_iload hx hb d_K_countFree_15 (lv_at hl 0 rfl) ?_
  refine lv_iload_n hx hb d_K_countFree_17 rfl (lv_at hl 2 rfl) ?_
  refine lv_icmp_ge (tgt := 46) hx hb d_K_countFree_18 (by decide) (fun h9 => absurd h9 (by decide +kernel)) (fun _ => ?_)
  refine lv_aload_n hx hb d_K_countFree_21 rfl (lv_at hl 3 rfl) ?_
  refine lv_iload hx hb d_K_countFree_22 (lv_at hl 0 rfl) ?_
  refine va_aldq hx hb hK hP 1 0 rfl rfl (by unfold vp_in; decide +kernel) d_K_countFree_24 ?_
  refine W.eq (g2 := F0 m 25 ls [.null]) rfl ?_
  refine lv_astoreN (lv' := [(5, .null), (4, .int 1), (3, .int 8), (2, .ref hd), (1, .int 512), (0, .ref h0)]) hx hb d_K_countFree_25 hl (by decide) rfl (fun ls hl => ?_)
  refine lv_aloadN hx hb d_K_countFree_27 (lv_at hl 0 rfl) ?_
  refine lv_ifnullN (tgt := 40) hx hb d_K_countFree_29 (by decide) ?_
  refine lv_iinc (v := 2) (lv' := [(4, .int 2), (5, .null), (3, .int 8), (2, .ref hd), (1, .int 512), (0, .ref h0)]) hx hb d_K_countFree_40 hl (k := 1) rfl (by decide +kernel) (by decide) rfl (fun ls hl => ?_)
  refine lv_goto (tgt := 15) hx hb d_K_countFree_43 (by decide) ?_
  refine lv_iload hx hb d_K_countFree_15 (lv_at hl 0 rfl) ?_
  refine lv_iload_n hx hb d_K_countFree_17 rfl (lv_at hl 2 rfl) ?_
  refine lv_icmp_ge (tgt := 46) hx hb d_K_countFree_18 (by decide) (fun h9 => absurd h9 (by decide +kernel)) (fun _ => ?_)
  refine lv_aload_n hx hb d_K_countFree_21 rfl (lv_at hl 3 rfl) ?_
  refine lv_iload hx hb d_K_countFree_22 (lv_at hl 0 rfl) ?_
  refine va_aldq hx hb hK hP 1 0 rfl rfl (by unfold vp_in; decide +kernel) d_K_countFree_24 ?_
  refine W.eq (g2 := F0 m 25 ls [.null]) rfl ?_
  refine lv_astoreN (lv' := [(5, .null), (4, .int 2), (3, .int 8), (2, .ref hd), (1, .int 512), (0, .ref h0)]) hx hb d_K_countFree_25 hl (by decide) rfl (fun ls hl => ?_)
  refine lv_aloadN hx hb d_K_countFree_27 (lv_at hl 0 rfl) ?_
  refine lv_ifnullN (tgt := 40) hx hb d_K_countFree_29 (by decide) ?_
  refine lv_iinc (v := 3) (lv' := [(4, .int 3), (5, .null), (3, .int 8), (2, .ref hd), (1, .int 512), (0, .ref h0)]) hx hb d_K_countFree_40 hl (k := 1) rfl (by decide +kernel) (by decide) rfl (fun ls hl => ?_)
  refine lv_goto (tgt := 15) hx hb d_K_countFree_43 (by decide) ?_
  refine lv_iload hx hb d_K_countFree_15 (lv_at hl 0 rfl) ?_
  refine lv_iload_n hx hb d_K_countFree_17 rfl (lv_at hl 2 rfl) ?_
  refine lv_icmp_ge (tgt := 46) hx hb d_K_countFree_18 (by decide) (fun h9 => absurd h9 (by decide +kernel)) (fun _ => ?_)
  refine lv_aload_n hx hb d_K_countFree_21 rfl (lv_at hl 3 rfl) ?_
  refine lv_iload hx hb d_K_countFree_22 (lv_at hl 0 rfl) ?_
  refine va_aldq hx hb hK hP 1 0 rfl rfl (by unfold vp_in; decide +kernel) d_K_countFree_24 ?_
  refine W.eq (g2 := F0 m 25 ls [.null]) rfl ?_
  refine lv_astoreN (lv' := [(5, .null), (4, .int 3), (3, .int 8), (2, .ref hd), (1, .int 512), (0, .ref h0)]) hx hb d_K_countFree_25 hl (by decide) rfl (fun ls hl => ?_)
  refine lv_aloadN hx hb d_K_countFree_27 (lv_at hl 0 rfl) ?_
  refine lv_ifnullN (tgt := 40) hx hb d_K_countFree_29 (by decide) ?_
  refine lv_iinc (v := 4) (lv' := [(4, .int 4), (5, .null), (3, .int 8), (2, .ref hd), (1, .int 512), (0, .ref h0)]) hx hb d_K_countFree_40 hl (k := 1) rfl (by decide +kernel) (by decide) rfl (fun ls hl => ?_)
  refine lv_goto (tgt := 15) hx hb d_K_countFree_43 (by decide) ?_
  refine lv_iload hx hb d_K_countFree_15 (lv_at hl 0 rfl) ?_
  refine lv_iload_n hx hb d_K_countFree_17 rfl (lv_at hl 2 rfl) ?_
  refine lv_icmp_ge (tgt := 46) hx hb d_K_countFree_18 (by decide) (fun h9 => absurd h9 (by decide +kernel)) (fun _ => ?_)
  refine lv_aload_n hx hb d_K_countFree_21 rfl (lv_at hl 3 rfl) ?_
  refine lv_iload hx hb d_K_countFree_22 (lv_at hl 0 rfl) ?_
  refine va_aldq hx hb hK hP 1 0 rfl rfl (by unfold vp_in; decide +kernel) d_K_countFree_24 ?_
  refine W.eq (g2 := F0 m 25 ls [.null]) rfl ?_
  refine lv_astoreN (lv' := [(5, .null), (4, .int 4), (3, .int 8), (2, .ref hd), (1, .int 512), (0, .ref h0)]) hx hb d_K_countFree_25 hl (by decide) rfl (fun ls hl => ?_)
  refine lv_aloadN hx hb d_K_countFree_27 (lv_at hl 0 rfl) ?_
  refine lv_ifnullN (tgt := 40) hx hb d_K_countFree_29 (by decide) ?_
  refine lv_iinc (v := 5) (lv' := [(4, .int 5), (5, .null), (3, .int 8), (2, .ref hd), (1, .int 512), (0, .ref h0)]) hx hb d_K_countFree_40 hl (k := 1) rfl (by decide +kernel) (by decide) rfl (fun ls hl => ?_)
  refine lv_goto (tgt := 15) hx hb d_K_countFree_43 (by decide) ?_
  refine lv_iload hx hb d_K_countFree_15 (lv_at hl 0 rfl) ?_
  refine lv_iload_n hx hb d_K_countFree_17 rfl (lv_at hl 2 rfl) ?_
  refine lv_icmp_ge (tgt := 46) hx hb d_K_countFree_18 (by decide) (fun h9 => absurd h9 (by decide +kernel)) (fun _ => ?_)
  refine lv_aload_n hx hb d_K_countFree_21 rfl (lv_at hl 3 rfl) ?_
  refine lv_iload hx hb d_K_countFree_22 (lv_at hl 0 rfl) ?_
  refine va_aldq hx hb hK hP 1 0 rfl rfl (by unfold vp_in; decide +kernel) d_K_countFree_24 ?_
  refine W.eq (g2 := F0 m 25 ls [.null]) rfl ?_
  refine lv_astoreN (lv' := [(5, .null), (4, .int 5), (3, .int 8), (2, .ref hd), (1, .int 512), (0, .ref h0)]) hx hb d_K_countFree_25 hl (by decide) rfl (fun ls hl => ?_)
  refine lv_aloadN hx hb d_K_countFree_27 (lv_at hl 0 rfl) ?_
  refine lv_ifnullN (tgt := 40) hx hb d_K_countFree_29 (by decide) ?_
  refine lv_iinc (v := 6) (lv' := [(4, .int 6), (5, .null), (3, .int 8), (2, .ref hd), (1, .int 512), (0, .ref h0)]) hx hb d_K_countFree_40 hl (k := 1) rfl (by decide +kernel) (by decide) rfl (fun ls hl => ?_)
  refine lv_goto (tgt := 15) hx hb d_K_countFree_43 (by decide) ?_
  refine lv_iload hx hb d_K_countFree_15 (lv_at hl 0 rfl) ?_
  refine lv_iload_n hx hb d_K_countFree_17 rfl (lv_at hl 2 rfl) ?_
  refine lv_icmp_ge (tgt := 46) hx hb d_K_countFree_18 (by decide) (fun h9 => absurd h9 (by decide +kernel)) (fun _ => ?_)
  refine lv_aload_n hx hb d_K_countFree_21 rfl (lv_at hl 3 rfl) ?_
  refine lv_iload hx hb d_K_countFree_22 (lv_at hl 0 rfl) ?_
  refine va_aldq hx hb hK hP 1 0 rfl rfl (by unfold vp_in; decide +kernel) d_K_countFree_24 ?_
  refine W.eq (g2 := F0 m 25 ls [.null]) rfl ?_
  refine lv_astoreN (lv' := [(5, .null), (4, .int 6), (3, .int 8), (2, .ref hd), (1, .int 512), (0, .ref h0)]) hx hb d_K_countFree_25 hl (by decide) rfl (fun ls hl => ?_)
  refine lv_aloadN hx hb d_K_countFree_27 (lv_at hl 0 rfl) ?_
  refine lv_ifnullN (tgt := 40) hx hb d_K_countFree_29 (by decide) ?_
  refine lv_iinc (v := 7) (lv' := [(4, .int 7), (5, .null), (3, .int 8), (2, .ref hd), (1, .int 512), (0, .ref h0)]) hx hb d_K_countFree_40 hl (k := 1) rfl (by decide +kernel) (by decide) rfl (fun ls hl => ?_)
  refine lv_goto (tgt := 15) hx hb d_K_countFree_43 (by decide) ?_
  refine lv_iload hx hb d_K_countFree_15 (lv_at hl 0 rfl) ?_
  refine lv_iload_n hx hb d_K_countFree_17 rfl (lv_at hl 2 rfl) ?_
  refine lv_icmp_ge (tgt := 46) hx hb d_K_countFree_18 (by decide) (fun h9 => absurd h9 (by decide +kernel)) (fun _ => ?_)
  refine lv_aload_n hx hb d_K_countFree_21 rfl (lv_at hl 3 rfl) ?_
  refine lv_iload hx hb d_K_countFree_22 (lv_at hl 0 rfl) ?_
  refine va_aldq hx hb hK hP 1 0 rfl rfl (by unfold vp_in; decide +kernel) d_K_countFree_24 ?_
  refine W.eq (g2 := F0 m 25 ls [.null]) rfl ?_
  refine lv_astoreN (lv' := [(5, .null), (4, .int 7), (3, .int 8), (2, .ref hd), (1, .int 512), (0, .ref h0)]) hx hb d_K_countFree_25 hl (by decide) rfl (fun ls hl => ?_)
  refine lv_aloadN hx hb d_K_countFree_27 (lv_at hl 0 rfl) ?_
  refine lv_ifnullN (tgt := 40) hx hb d_K_countFree_29 (by decide) ?_
  refine lv_iinc (v := 8) (lv' := [(4, .int 8), (5, .null), (3, .int 8), (2, .ref hd), (1, .int 512), (0, .ref h0)]) hx hb d_K_countFree_40 hl (k := 1) rfl (by decide +kernel) (by decide) rfl (fun ls hl => ?_)
  refine lv_goto (tgt := 15) hx hb d_K_countFree_43 (by decide) ?_
  refine lv_iload hx hb d_K_countFree_15 (lv_at hl 0 rfl) ?_
  refine lv_iload_n hx hb d_K_countFree_17 rfl (lv_at hl 2 rfl) ?_
  refine lv_icmp_ge (tgt := 46) hx hb d_K_countFree_18 (by decide) (fun _ => ?_) (fun h9 => absurd h9 (by decide +kernel))
  refine lv_iload_n hx hb d_K_countFree_46 rfl (lv_at hl 4 rfl) ?_
  exact W.iret (v := 512) hx hb hr (fun t ht hW => ⟨512, rfl, rfl, ht⟩) (fun q h => by cases h) d_K_countFree_47
set_option maxHeartbeats 4000000 in
set_option maxRecDepth 100000 in
theorem c_freeBlocks (l : Launch) (dC : Nat → ClassId) (dI : Nat → Nat → Nat) (h0 : Nat) (v_buffer : Value) (v_fetched : Value) (v_compared : Value) (v_maker : Value) (v_writer : Value) (i_madeDocuments : Int32) (i_fetchedSteps : Int32) (hp : Nat) (p_i_going : Int32) (p_i_writesLeft : Int32) (hd : Nat) (cD : ClassId)  : Met l y_K_freeBlocks k_K_freeBlocks ({ frames := 1, cells := 0, slots := 0, locals := 25 } : Room) (va_Pc [.ref h0] (pc_R (dC, dI) [(h0, .inr (0, [.ref hd, v_buffer, v_fetched, v_compared, v_maker, v_writer, .ref hp, .int i_madeDocuments, .int i_fetchedSteps])), (hp, .inr (4, [.int 0, .int p_i_going, .int p_i_writesLeft])), (hd, .inl (cD, 8, .inr (.inr (.inr (.inr (fun _ => none))))))] [(cD, .object R_D)])) (vp_Si (fun r => r = 512)) 0 0 (fun _ => False) := by
  refine Met.ofW (cc := prog_1_method_17_code) (maxL := 1) (ret := (some .int)) (by decide) rfl ?_
  intro p e s m args below meth c s₁ B hml hv
  obtain ⟨rfl, hP, hK, hN⟩ := hv
  have hx := B.exec
  have hb := B.bytes
  have hr := B.returns
  have hts := atoms_spec (ws := k_K_freeBlocks) B.pre
  have hw0 : ∀ w ∈ w0, w.before _ s = true := fun w h => hts w (List.mem_cons_of_mem _ h)
  have hown : s.vm.findClass R_K = some m.cls := findClass_of_methodNamed B.named
  have hlocks := B.notSynchronized
  have hP : va_P (dC, dI) vwCl [(h0, .inr (0, [.ref hd, v_buffer, v_fetched, v_compared, v_maker, v_writer, .ref hp, .int i_madeDocuments, .int i_fetchedSteps])), (hp, .inr (4, [.int 0, .int p_i_going, .int p_i_writesLeft])), (hd, .inl (cD, 8, .inr (.inr (.inr (.inr (fun _ => none))))))] s.heap := hP
  have hl := lv_entry ([.ref h0]) (n := 1) (Nat.le_of_ble_eq_true rfl)
  rw [lg_entry_eq]
  generalize (lg_sl ([.ref h0]) ++ List.replicate (1 - (lg_sl ([.ref h0])).length) Slot.unset).toArray = ls at hl ⊢
  have hl : lv_has ls 1 [(0, .ref h0)] := hl
  refine lv_aload_n hx hb d_K_freeBlocks_0 rfl (lv_at hl 0 rfl) ?_
  have hPc := hP.sub (ws' := [(h0, .inr (0, [.ref hd, v_buffer, v_fetched, v_compared, v_maker, v_writer, .ref hp, .int i_madeDocuments, .int i_fetchedSteps])), (hp, .inr (4, [.int 0, .int p_i_going, .int p_i_writesLeft]))]) [0, 1] rfl
  have hKc := hK.sub (tys' := []) [] rfl
  refine ps_v (va_runV (As := []) (rest := []) ⟨hx, hb, hml, hown, hw0⟩ (c_needPower l dC dI h0 (.ref hd) v_buffer v_fetched v_compared v_maker v_writer i_madeDocuments i_fetchedSteps hp p_i_going p_i_writesLeft) (cwV 0 hw0 (gd_V 113 114 115 111 116 rfl rfl rfl rfl rfl) rfl rfl rfl (by decide +kernel) ⟨by decide +kernel, by decide +kernel⟩) (prV_R hPc hKc hN (va_recv hKc hPc (ci := 0) (q0 := 0) rfl rfl)) rfl rfl hl.1 rfl (lv_room (Nat.le_of_ble_eq_true rfl)) d_K_freeBlocks_1 ⟨by decide +kernel, by decide +kernel⟩) ?_
  refine lv_aload_n hx hb d_K_freeBlocks_4 rfl (lv_at hl 0 rfl) ?_
  have hPc := hP.sub (ws' := [(h0, .inr (0, [.ref hd, v_buffer, v_fetched, v_compared, v_maker, v_writer, .ref hp, .int i_madeDocuments, .int i_fetchedSteps])), (hd, .inl (cD, 8, .inr (.inr (.inr (.inr (fun _ => none))))))]) [0, 2] rfl
  have hKc := hK.sub (tys' := [(cD, .object R_D)]) [0] rfl
  refine ps_i (va_runV (As := []) (rest := []) ⟨hx, hb, hml, hown, hw0⟩ (c_countFree l dC dI h0 v_buffer v_fetched v_compared v_maker v_writer (.ref hp) i_madeDocuments i_fetchedSteps hd cD) (cwV 0 hw0 (gd_V 125 126 127 111 128 rfl rfl rfl rfl rfl) rfl rfl rfl (by decide +kernel) ⟨by decide +kernel, by decide +kernel⟩) (prV_R hPc hKc hN (va_recv hKc hPc (ci := 0) (q0 := 0) rfl rfl)) rfl rfl hl.1 rfl (lv_room (Nat.le_of_ble_eq_true rfl)) d_K_freeBlocks_5 ⟨by decide +kernel, by decide +kernel⟩) (fun r_1 hr_1 => ?_)
  obtain rfl : r_1 = 512 := hr_1
  exact W.iret (v := 512) hx hb hr (fun t ht hW => ⟨512, rfl, rfl, ht⟩) (fun q h => by cases h) d_K_freeBlocks_8
set_option maxHeartbeats 4000000 in
set_option maxRecDepth 100000 in
theorem c_start (l : Launch) (dC : Nat → ClassId) (dI : Nat → Nat → Nat) (h0 : Nat) (v_documents : Value) (v_buffer : Value) (v_fetched : Value) (v_compared : Value) (v_maker : Value) (v_writer : Value) (i_madeDocuments : Int32) (i_fetchedSteps : Int32) (hp : Nat) (p_i_going : Int32) (p_i_writesLeft : Int32)  : Met l y_K_start k_K_start ({ frames := 0, cells := 0, slots := 0, locals := 0 } : Room) (va_Pc [.ref h0] (pc_R (dC, dI) [(h0, .inr (0, [v_documents, v_buffer, v_fetched, v_compared, v_maker, v_writer, .ref hp, .int i_madeDocuments, .int i_fetchedSteps])), (hp, .inr (4, [.int 0, .int p_i_going, .int p_i_writesLeft]))] [])) (vp_Si (fun r => r = 0)) 0 0 (fun _ => False) := by
  refine Met.ofW (cc := prog_1_method_19_code) (maxL := 1) (ret := (some .boolean)) (by decide) rfl ?_
  intro p e s m args below meth c s₁ B hml hv
  obtain ⟨rfl, hP, hK, hN⟩ := hv
  have hx := B.exec
  have hb := B.bytes
  have hr := B.returns
  have hts := atoms_spec (ws := k_K_start) B.pre
  have hw0 : ∀ w ∈ w0, w.before _ s = true := fun w h => hts w (List.mem_cons_of_mem _ h)
  have hown : s.vm.findClass R_K = some m.cls := findClass_of_methodNamed B.named
  have hlocks := B.notSynchronized
  have hP : va_P (dC, dI) vwCl [(h0, .inr (0, [v_documents, v_buffer, v_fetched, v_compared, v_maker, v_writer, .ref hp, .int i_madeDocuments, .int i_fetchedSteps])), (hp, .inr (4, [.int 0, .int p_i_going, .int p_i_writesLeft]))] s.heap := hP
  have hl := lv_entry ([.ref h0]) (n := 1) (Nat.le_of_ble_eq_true rfl)
  rw [lg_entry_eq]
  generalize (lg_sl ([.ref h0]) ++ List.replicate (1 - (lg_sl ([.ref h0])).length) Slot.unset).toArray = ls at hl ⊢
  have hl : lv_has ls 1 [(0, .ref h0)] := hl
  refine lv_aload_n hx hb d_K_start_0 rfl (lv_at hl 0 rfl) ?_
  refine va_get (D := (dC, dI)) (ci := 0) (v := .ref hp) (C := R_K) (T := F_K) (N := 9) hx hb hw0 in_K hown hK hP 0 rfl rfl 6 (by decide) (hw0 (.fieldLink R_K 45 "TextKeeper" "power" "LTextKeeper$Power;") (List.mem_of_getElem? (i := 105) rfl)) (fun _ h9 => h9) rfl d_K_start_1 ?_
  refine va_getN (D := (dC, dI)) (ci := 4) (v := .int 0) (C := R_P) (T := F_P) (N := 3) hx hb hw0 in_P hown hK hP 1 rfl rfl 0 (by decide) (va_Nw.use rfl (hN.1 (.fieldLinkNest R_K 180 "TextKeeper$Power" "down" "Z" "TextKeeper") (List.mem_of_getElem? (i := 0) rfl))) (fun _ h9 => h9) rfl d_K_start_4 ?_
  refine lv_if_ne (tgt := 12) hx hb d_K_start_7 (by decide) (fun h9 => absurd h9 (by decide +kernel)) (fun _ => ?_)
  refine lv_iconst (v := 0) hx hb d_K_start_10 (by decide) ?_
  exact W.zret (v := 0) (ty := .boolean) hx hb hr rfl (fun t ht hW => ⟨0, rfl, rfl, ht⟩) (fun q h => by cases h) d_K_start_11
set_option maxHeartbeats 4000000 in
set_option maxRecDepth 100000 in
theorem c_isDown (l : Launch) (dC : Nat → ClassId) (dI : Nat → Nat → Nat) (h0 : Nat) (v_documents : Value) (v_buffer : Value) (v_fetched : Value) (v_compared : Value) (v_maker : Value) (v_writer : Value) (i_madeDocuments : Int32) (i_fetchedSteps : Int32) (hp : Nat) (p_i_going : Int32) (p_i_writesLeft : Int32)  : Met l y_K_isDown k_K_isDown ({ frames := 0, cells := 0, slots := 0, locals := 0 } : Room) (va_Pc [.ref h0] (pc_R (dC, dI) [(h0, .inr (0, [v_documents, v_buffer, v_fetched, v_compared, v_maker, v_writer, .ref hp, .int i_madeDocuments, .int i_fetchedSteps])), (hp, .inr (4, [.int 0, .int p_i_going, .int p_i_writesLeft]))] [])) (vp_Si (fun r => r = 0)) 0 0 (fun _ => False) := by
  refine Met.ofW (cc := prog_1_method_20_code) (maxL := 1) (ret := (some .boolean)) (by decide) rfl ?_
  intro p e s m args below meth c s₁ B hml hv
  obtain ⟨rfl, hP, hK, hN⟩ := hv
  have hx := B.exec
  have hb := B.bytes
  have hr := B.returns
  have hts := atoms_spec (ws := k_K_isDown) B.pre
  have hw0 : ∀ w ∈ w0, w.before _ s = true := fun w h => hts w (List.mem_cons_of_mem _ h)
  have hown : s.vm.findClass R_K = some m.cls := findClass_of_methodNamed B.named
  have hlocks := B.notSynchronized
  have hP : va_P (dC, dI) vwCl [(h0, .inr (0, [v_documents, v_buffer, v_fetched, v_compared, v_maker, v_writer, .ref hp, .int i_madeDocuments, .int i_fetchedSteps])), (hp, .inr (4, [.int 0, .int p_i_going, .int p_i_writesLeft]))] s.heap := hP
  have hl := lv_entry ([.ref h0]) (n := 1) (Nat.le_of_ble_eq_true rfl)
  rw [lg_entry_eq]
  generalize (lg_sl ([.ref h0]) ++ List.replicate (1 - (lg_sl ([.ref h0])).length) Slot.unset).toArray = ls at hl ⊢
  have hl : lv_has ls 1 [(0, .ref h0)] := hl
  refine lv_aload_n hx hb d_K_isDown_0 rfl (lv_at hl 0 rfl) ?_
  refine va_get (D := (dC, dI)) (ci := 0) (v := .ref hp) (C := R_K) (T := F_K) (N := 9) hx hb hw0 in_K hown hK hP 0 rfl rfl 6 (by decide) (hw0 (.fieldLink R_K 45 "TextKeeper" "power" "LTextKeeper$Power;") (List.mem_of_getElem? (i := 105) rfl)) (fun _ h9 => h9) rfl d_K_isDown_1 ?_
  refine va_getN (D := (dC, dI)) (ci := 4) (v := .int 0) (C := R_P) (T := F_P) (N := 3) hx hb hw0 in_P hown hK hP 1 rfl rfl 0 (by decide) (va_Nw.use rfl (hN.1 (.fieldLinkNest R_K 180 "TextKeeper$Power" "down" "Z" "TextKeeper") (List.mem_of_getElem? (i := 0) rfl))) (fun _ h9 => h9) rfl d_K_isDown_4 ?_
  exact W.zret (v := 0) (ty := .boolean) hx hb hr rfl (fun t ht hW => ⟨0, rfl, rfl, ht⟩) (fun q h => by cases h) d_K_isDown_7
